/-! a world of literal cells as a typed pool -/
theorem lo0 (k j : Nat) : loI 0 k j ≤ 0 := by
  unfold loI
  split <;> decide
theorem hi0 (k j : Nat) : 0 ≤ hiI 0 k j := by
  unfold hiI
  split <;> decide
theorem le0 (k : Nat) : loE k ≤ 0 := by
  unfold loE
  split <;> decide
theorem he0 (k : Nat) : 0 ≤ hiE k := by
  unfold hiE
  split <;> decide
theorem rkO_lt {k j : Nat} : rkO k j ≠ 99 → j < 14 := by
  unfold rkO
  split <;> first | (intro _; decide) | (intro h; exact absurd rfl h)
theorem rkO_hi {k j : Nat} (h : 20 ≤ k) : rkO k j = 99 := by
  unfold rkO
  split <;> first | rfl | omega
def okC (cy : Nat → ClassId) (L : List Nat) (K : Nat → Nat) (z : Nat) (e : va_E) : Prop := ∃ (k : Nat) (r : Nat → Nat) (i : Nat → Int32) (q : Nat → Int64) (a : Nat → Int32) (b : Nat → Int64), K z = k ∧ (∀ (G : va_G) (H : Heap), va_at G vwCl (z, e) H → va_at G vwCl (z, mkE cy k r i q a b) H) ∧ (∀ j, rkO k j ≠ 99 → r j ∈ L ∧ K (r j) = rkO k j) ∧ (rkA k ≠ 99 → ∀ j, j < lnE k → r j ∈ L ∧ K (r j) = rkA k) ∧ (∀ j, loI 0 k j ≤ (i j).toInt ∧ (i j).toInt ≤ hiI 0 k j) ∧ (∀ j, j < lnE k → loE k ≤ (a j).toInt ∧ (a j).toInt ≤ hiE k)
theorem pool_of {G : va_G} {A : Nat → Prop} {cy : Nat → ClassId} {ws : va_W} {H : Heap} {K : Nat → Nat} {L : List Nat} (hL : L = ws.map Prod.fst) (hP : va_P G vwCl ws H) (hD : va_D A ws) (hc : ∀ c ∈ ws, okC cy L K c.1 c.2) : ∃ (R : Nat → Nat → Nat) (I : Nat → Nat → Int32) (J : Nat → Nat → Int64) (E : Nat → Nat → Int32) (B : Nat → Nat → Int64), va_P G vwCl (WC cy L K R I J E B) H ∧ va_D A (WC cy L K R I J E B) ∧ RT L K R ∧ IV 0 L K I ∧ EV L K E := by
  have h : ∀ z : Nat, ∃ t : (Nat → Nat) × (Nat → Int32) × (Nat → Int64) × (Nat → Int32) × (Nat → Int64), z ∈ L → va_at G vwCl (z, mkE cy (K z) t.1 t.2.1 t.2.2.1 t.2.2.2.1 t.2.2.2.2) H ∧ (∀ j, rkO (K z) j ≠ 99 → t.1 j ∈ L ∧ K (t.1 j) = rkO (K z) j) ∧ (rkA (K z) ≠ 99 → ∀ j, j < lnE (K z) → t.1 j ∈ L ∧ K (t.1 j) = rkA (K z)) ∧ (∀ j, loI 0 (K z) j ≤ (t.2.1 j).toInt ∧ (t.2.1 j).toInt ≤ hiI 0 (K z) j) ∧ (∀ j, j < lnE (K z) → loE (K z) ≤ (t.2.2.2.1 j).toInt ∧ (t.2.2.2.1 j).toInt ≤ hiE (K z)) := by
    intro z
    by_cases hz : z ∈ L
    · have hz2 := hz
      rw [hL] at hz2
      obtain ⟨c, hcm, rfl⟩ := List.mem_map.mp hz2
      obtain ⟨k, r, i, q, a, b, hk, h1, h2, h3, h4, h5⟩ := hc c hcm
      subst hk
      obtain ⟨n, hn⟩ := List.getElem?_of_mem hcm
      exact ⟨(r, i, q, a, b), fun _ => ⟨h1 G H (hP n c hn), h2, h3, h4, h5⟩⟩
    · exact ⟨(fun _ => 0, fun _ => 0, fun _ => 0, fun _ => 0, fun _ => 0), fun h => absurd h hz⟩
  obtain ⟨F, h9⟩ : ∃ F : Nat → (Nat → Nat) × (Nat → Int32) × (Nat → Int64) × (Nat → Int32) × (Nat → Int64), ∀ z : Nat, z ∈ L → va_at G vwCl (z, mkE cy (K z) (F z).1 (F z).2.1 (F z).2.2.1 (F z).2.2.2.1 (F z).2.2.2.2) H ∧ (∀ j, rkO (K z) j ≠ 99 → (F z).1 j ∈ L ∧ K ((F z).1 j) = rkO (K z) j) ∧ (rkA (K z) ≠ 99 → ∀ j, j < lnE (K z) → (F z).1 j ∈ L ∧ K ((F z).1 j) = rkA (K z)) ∧ (∀ j, loI 0 (K z) j ≤ ((F z).2.1 j).toInt ∧ ((F z).2.1 j).toInt ≤ hiI 0 (K z) j) ∧ (∀ j, j < lnE (K z) → loE (K z) ≤ ((F z).2.2.2.1 j).toInt ∧ ((F z).2.2.2.1 j).toInt ≤ hiE (K z)) := ⟨fun z => Classical.choose (h z), fun z => Classical.choose_spec (h z)⟩
  refine ⟨fun z => (F z).1, fun z => (F z).2.1, fun z => (F z).2.2.1, fun z => (F z).2.2.2.1, fun z => (F z).2.2.2.2, fun k q hq => ?_, ⟨va_nd_iff.mpr ?_, fun k q hq => ?_⟩, fun z hz => ⟨(h9 z hz).2.1, (h9 z hz).2.2.1⟩, fun z hz => (h9 z hz).2.2.2.1, fun z hz => (h9 z hz).2.2.2.2⟩
  · obtain ⟨z, hz, rfl⟩ := List.mem_map.mp (List.mem_of_getElem? hq)
    exact (h9 z hz).1
  · have e9 : ∀ f : Nat → va_E, (va_pl L f).map Prod.fst = L := fun f => by
      unfold va_pl
      rw [List.map_map]
      exact List.map_id L
    rw [e9, hL]
    exact va_nd_iff.mp hD.1
  · obtain ⟨z, hz, rfl⟩ := List.mem_map.mp (List.mem_of_getElem? hq)
    rw [hL] at hz
    obtain ⟨c, hcm, rfl⟩ := List.mem_map.mp hz
    obtain ⟨n, hn⟩ := List.getElem?_of_mem hcm
    exact hD.2 n c hn
def kOf : List Nat → List Nat → Nat → Nat
  | a :: as, k :: ks, z => if z = a then k else kOf as ks z
  | _, _, _ => 99
theorem kOf_at : ∀ (L ks : List Nat) (k z n : Nat), L.Nodup → L[k]? = some z → ks[k]? = some n → kOf L ks z = n
  | [], _, _, _, _, _, h, _ => by simp at h
  | _ :: _, [], _, _, _, _, _, h => by simp at h
  | a :: as, b :: bs, 0, z, n, _, h1, h2 => by
    simp at h1 h2
    subst h1
    subst h2
    exact if_pos rfl
  | a :: as, b :: bs, k + 1, z, n, hn, h1, h2 => by
    have hn2 := List.nodup_cons.mp hn
    have h1' : as[k]? = some z := by simpa using h1
    have h2' : bs[k]? = some n := by simpa using h2
    have hne : z ≠ a := fun h => hn2.1 (h ▸ List.mem_of_getElem? h1')
    exact (if_neg hne).trans (kOf_at as bs k z n hn2.2 h1' h2')
theorem kOf_0 : ∀ (L ks : List Nat) (z : Nat), kOf L ks z = 0 → ∃ k : Nat, L[k]? = some z ∧ ks[k]? = some 0
  | [], _, _, h => by simp [kOf] at h
  | _ :: _, [], _, h => by simp [kOf] at h
  | a :: as, b :: bs, z, h => by
    by_cases hz : z = a
    · have h2 : b = 0 := (if_pos hz).symm.trans h
      exact ⟨0, by rw [hz]; rfl, by rw [h2]; rfl⟩
    · have h2 : kOf as bs z = 0 := (if_neg hz).symm.trans h
      obtain ⟨k, h3, h4⟩ := kOf_0 as bs z h2
      exact ⟨k + 1, by simpa using h3, by simpa using h4⟩
def Fct (L : List Nat) (K : Nat → Nat) (ws : va_W) (ks : List Nat) : Prop := ∀ (k z n : Nat) (e : va_E), ws[k]? = some (z, e) → ks[k]? = some n → z ∈ L ∧ K z = n
theorem Fct.all {ws : va_W} {ks : List Nat} {A : Nat → Prop} (hD : va_D A ws) : Fct (ws.map Prod.fst) (kOf (ws.map Prod.fst) ks) ws ks := fun k z n e h1 h2 => by
  have h3 : (ws.map Prod.fst)[k]? = some z := by rw [List.getElem?_map, h1]; rfl
  exact ⟨List.mem_of_getElem? h3, kOf_at _ _ k z n (va_nd_iff.mp hD.1) h3 h2⟩
theorem Fct.left {L : List Nat} {K : Nat → Nat} {w1 w2 : va_W} {k1 k2 : List Nat} (h : Fct L K (w1 ++ w2) (k1 ++ k2)) : Fct L K w1 k1 := fun k z n e h1 h2 => h k z n e (by
  rw [List.getElem?_append_left (List.getElem?_eq_some_iff.mp h1).1]; exact h1) (by
  rw [List.getElem?_append_left (List.getElem?_eq_some_iff.mp h2).1]; exact h2)
theorem Fct.right {L : List Nat} {K : Nat → Nat} {w1 w2 : va_W} {k1 k2 : List Nat} (hl : w1.length = k1.length) (h : Fct L K (w1 ++ w2) (k1 ++ k2)) : Fct L K w2 k2 := fun k z n e h1 h2 => h (w1.length + k) z n e (by
  rw [List.getElem?_append_right (Nat.le_add_right _ _), Nat.add_sub_cancel_left]; exact h1) (by
  rw [hl, List.getElem?_append_right (Nat.le_add_right _ _), Nat.add_sub_cancel_left]; exact h2)
theorem at_q {G : va_G} {H : Heap} {z n : Nat} {c : ClassId} {f : Nat → Option Nat} {r : Nat → Nat} (hf : ∀ j, j < n → f j = some (r j)) (h : va_at G vwCl (z, .inl (c, n, .inr (.inr (.inr (.inr f))))) H) : va_at G vwCl (z, .inl (c, n, .inr (.inr (.inr (.inr (fun j => some (r j))))))) H := by
  have e : vp_cell c (n, .inr (.inr (.inr (.inr f)))) = vp_cell c (n, .inr (.inr (.inr (.inr (fun j => some (r j)))))) := by
    show arrV c n (fun j => va_rf (f j)) = arrV c n (fun j => va_rf (some (r j)))
    unfold arrV
    congr 1
    apply Array.ext
    · simp
    · intro i h1 h2
      have hi : i < n := by simpa using h1
      simp [hf i hi]
  show H[z]? = some (vp_cell c (n, .inr (.inr (.inr (.inr (fun j => some (r j)))))))
  rw [← e]
  exact h
section POOLOK
variable {cy : Nat → ClassId} {L : List Nat} {K : Nat → Nat} {z : Nat}
theorem ok_0 {x0 x2 x3 x6 x7 x8 x9 x11 x12 x13 : Nat} (hz : z ∈ L ∧ K z = 0) (h0 : x0 ∈ L ∧ K x0 = 20) (h2 : x2 ∈ L ∧ K x2 = 1) (h3 : x3 ∈ L ∧ K x3 = 1) (h6 : x6 ∈ L ∧ K x6 = 7) (h7 : x7 ∈ L ∧ K x7 = 35) (h8 : x8 ∈ L ∧ K x8 = 4) (h9 : x9 ∈ L ∧ K x9 = 8) (h11 : x11 ∈ L ∧ K x11 = 9) (h12 : x12 ∈ L ∧ K x12 = 10) (h13 : x13 ∈ L ∧ K x13 = 11) : okC cy L K z (.inr (11, [.ref x0, .int 0, .ref x2, .ref x3, .int 0, .int (-1), .ref x6, .ref x7, .ref x8, .ref x9, .int 0, .ref x11, .ref x12, .ref x13])) := by
  refine ⟨0, lst [x0, 0, x2, x3, 0, 0, x6, x7, x8, x9, 0, x11, x12, x13], (fun j => if j = 5 then -1 else 0), fun _ => 0, fun _ => 0, fun _ => 0, hz.2, fun _ _ h => h, fun j hj => ?_, fun hn => absurd rfl hn, fun j => ?_, fun j _ => ⟨le0 _, he0 _⟩⟩
  · skip
    have hj14 := rkO_lt hj
    rcases (show j = 0 ∨ j = 1 ∨ j = 2 ∨ j = 3 ∨ j = 4 ∨ j = 5 ∨ j = 6 ∨ j = 7 ∨ j = 8 ∨ j = 9 ∨ j = 10 ∨ j = 11 ∨ j = 12 ∨ j = 13 by omega) with rfl | rfl | rfl | rfl | rfl | rfl | rfl | rfl | rfl | rfl | rfl | rfl | rfl | rfl
    · exact h0
    · exact absurd rfl hj
    · exact h2
    · exact h3
    · exact absurd rfl hj
    · exact absurd rfl hj
    · exact h6
    · exact h7
    · exact h8
    · exact h9
    · exact absurd rfl hj
    · exact h11
    · exact h12
    · exact h13
  · by_cases e : j = 5
    · subst e
      exact ⟨(by decide), (by decide)⟩
    · show loI 0 0 j ≤ (if j = 5 then (-1 : Int32) else 0).toInt ∧ (if j = 5 then (-1 : Int32) else 0).toInt ≤ hiI 0 0 j
      rw [if_neg e]
      exact ⟨lo0 _ j, hi0 _ j⟩
theorem ok_1 {x0 x1 x2 x4 x6 x8 : Nat} (hz : z ∈ L ∧ K z = 1) (h0 : x0 ∈ L ∧ K x0 = 29) (h1 : x1 ∈ L ∧ K x1 = 30) (h2 : x2 ∈ L ∧ K x2 = 31) (h4 : x4 ∈ L ∧ K x4 = 32) (h6 : x6 ∈ L ∧ K x6 = 6) (h8 : x8 ∈ L ∧ K x8 = 33) : okC cy L K z (.inr (9, [.ref x0, .ref x1, .ref x2, .int 0, .ref x4, .int 0, .ref x6, .int 0, .ref x8])) := by
  refine ⟨1, lst [x0, x1, x2, 0, x4, 0, x6, 0, x8], (fun _ => 0), fun _ => 0, fun _ => 0, fun _ => 0, hz.2, fun _ _ h => h, fun j hj => ?_, fun hn => absurd rfl hn, fun j => ⟨lo0 _ j, hi0 _ j⟩, fun j _ => ⟨le0 _, he0 _⟩⟩
  have hj14 := rkO_lt hj
  rcases (show j = 0 ∨ j = 1 ∨ j = 2 ∨ j = 3 ∨ j = 4 ∨ j = 5 ∨ j = 6 ∨ j = 7 ∨ j = 8 ∨ j = 9 ∨ j = 10 ∨ j = 11 ∨ j = 12 ∨ j = 13 by omega) with rfl | rfl | rfl | rfl | rfl | rfl | rfl | rfl | rfl | rfl | rfl | rfl | rfl | rfl
  · exact h0
  · exact h1
  · exact h2
  · exact absurd rfl hj
  · exact h4
  · exact absurd rfl hj
  · exact h6
  · exact absurd rfl hj
  · exact h8
  · exact absurd rfl hj
  · exact absurd rfl hj
  · exact absurd rfl hj
  · exact absurd rfl hj
  · exact absurd rfl hj
theorem ok_2 {x0 x1 : Nat} (hz : z ∈ L ∧ K z = 2) (h0 : x0 ∈ L ∧ K x0 = 21) (h1 : x1 ∈ L ∧ K x1 = 22) : okC cy L K z (.inr (8, [.ref x0, .ref x1, .int 0])) := by
  refine ⟨2, lst [x0, x1, 0], (fun _ => 0), fun _ => 0, fun _ => 0, fun _ => 0, hz.2, fun _ _ h => h, fun j hj => ?_, fun hn => absurd rfl hn, fun j => ⟨lo0 _ j, hi0 _ j⟩, fun j _ => ⟨le0 _, he0 _⟩⟩
  have hj14 := rkO_lt hj
  rcases (show j = 0 ∨ j = 1 ∨ j = 2 ∨ j = 3 ∨ j = 4 ∨ j = 5 ∨ j = 6 ∨ j = 7 ∨ j = 8 ∨ j = 9 ∨ j = 10 ∨ j = 11 ∨ j = 12 ∨ j = 13 by omega) with rfl | rfl | rfl | rfl | rfl | rfl | rfl | rfl | rfl | rfl | rfl | rfl | rfl | rfl
  · exact h0
  · exact h1
  · exact absurd rfl hj
  · exact absurd rfl hj
  · exact absurd rfl hj
  · exact absurd rfl hj
  · exact absurd rfl hj
  · exact absurd rfl hj
  · exact absurd rfl hj
  · exact absurd rfl hj
  · exact absurd rfl hj
  · exact absurd rfl hj
  · exact absurd rfl hj
  · exact absurd rfl hj
theorem ok_3 {x0 x1 : Nat} (hz : z ∈ L ∧ K z = 3) (h0 : x0 ∈ L ∧ K x0 = 23) (h1 : x1 ∈ L ∧ K x1 = 24) : okC cy L K z (.inr (8, [.ref x0, .ref x1, .int 0])) := by
  refine ⟨3, lst [x0, x1, 0], (fun _ => 0), fun _ => 0, fun _ => 0, fun _ => 0, hz.2, fun _ _ h => h, fun j hj => ?_, fun hn => absurd rfl hn, fun j => ⟨lo0 _ j, hi0 _ j⟩, fun j _ => ⟨le0 _, he0 _⟩⟩
  have hj14 := rkO_lt hj
  rcases (show j = 0 ∨ j = 1 ∨ j = 2 ∨ j = 3 ∨ j = 4 ∨ j = 5 ∨ j = 6 ∨ j = 7 ∨ j = 8 ∨ j = 9 ∨ j = 10 ∨ j = 11 ∨ j = 12 ∨ j = 13 by omega) with rfl | rfl | rfl | rfl | rfl | rfl | rfl | rfl | rfl | rfl | rfl | rfl | rfl | rfl
  · exact h0
  · exact h1
  · exact absurd rfl hj
  · exact absurd rfl hj
  · exact absurd rfl hj
  · exact absurd rfl hj
  · exact absurd rfl hj
  · exact absurd rfl hj
  · exact absurd rfl hj
  · exact absurd rfl hj
  · exact absurd rfl hj
  · exact absurd rfl hj
  · exact absurd rfl hj
  · exact absurd rfl hj
theorem ok_4 {x0 x1 x2 x3 : Nat} (hz : z ∈ L ∧ K z = 4) (h0 : x0 ∈ L ∧ K x0 = 25) (h1 : x1 ∈ L ∧ K x1 = 25) (h2 : x2 ∈ L ∧ K x2 = 25) (h3 : x3 ∈ L ∧ K x3 = 25) : okC cy L K z (.inr (2, [.ref x0, .ref x1, .ref x2, .ref x3, .int 0])) := by
  refine ⟨4, lst [x0, x1, x2, x3, 0], (fun _ => 0), fun _ => 0, fun _ => 0, fun _ => 0, hz.2, fun _ _ h => h, fun j hj => ?_, fun hn => absurd rfl hn, fun j => ⟨lo0 _ j, hi0 _ j⟩, fun j _ => ⟨le0 _, he0 _⟩⟩
  have hj14 := rkO_lt hj
  rcases (show j = 0 ∨ j = 1 ∨ j = 2 ∨ j = 3 ∨ j = 4 ∨ j = 5 ∨ j = 6 ∨ j = 7 ∨ j = 8 ∨ j = 9 ∨ j = 10 ∨ j = 11 ∨ j = 12 ∨ j = 13 by omega) with rfl | rfl | rfl | rfl | rfl | rfl | rfl | rfl | rfl | rfl | rfl | rfl | rfl | rfl
  · exact h0
  · exact h1
  · exact h2
  · exact h3
  · exact absurd rfl hj
  · exact absurd rfl hj
  · exact absurd rfl hj
  · exact absurd rfl hj
  · exact absurd rfl hj
  · exact absurd rfl hj
  · exact absurd rfl hj
  · exact absurd rfl hj
  · exact absurd rfl hj
  · exact absurd rfl hj
theorem ok_5  (hz : z ∈ L ∧ K z = 5)  : okC cy L K z (.inr (4, [.long 0, .int 0, .int 0, .int 0, .int 0, .int 0])) := by
  refine ⟨5, lst [0, 0, 0, 0, 0, 0], (fun _ => 0), fun _ => 0, fun _ => 0, fun _ => 0, hz.2, fun _ _ h => h, fun j hj => ?_, fun hn => absurd rfl hn, fun j => ⟨lo0 _ j, hi0 _ j⟩, fun j _ => ⟨le0 _, he0 _⟩⟩
  have hj14 := rkO_lt hj
  rcases (show j = 0 ∨ j = 1 ∨ j = 2 ∨ j = 3 ∨ j = 4 ∨ j = 5 ∨ j = 6 ∨ j = 7 ∨ j = 8 ∨ j = 9 ∨ j = 10 ∨ j = 11 ∨ j = 12 ∨ j = 13 by omega) with rfl | rfl | rfl | rfl | rfl | rfl | rfl | rfl | rfl | rfl | rfl | rfl | rfl | rfl
  · exact absurd rfl hj
  · exact absurd rfl hj
  · exact absurd rfl hj
  · exact absurd rfl hj
  · exact absurd rfl hj
  · exact absurd rfl hj
  · exact absurd rfl hj
  · exact absurd rfl hj
  · exact absurd rfl hj
  · exact absurd rfl hj
  · exact absurd rfl hj
  · exact absurd rfl hj
  · exact absurd rfl hj
  · exact absurd rfl hj
theorem ok_6 {x0 x1 x3 : Nat} (hz : z ∈ L ∧ K z = 6) (h0 : x0 ∈ L ∧ K x0 = 26) (h1 : x1 ∈ L ∧ K x1 = 27) (h3 : x3 ∈ L ∧ K x3 = 28) : okC cy L K z (.inr (5, [.ref x0, .ref x1, .int 0, .ref x3, .int 0])) := by
  refine ⟨6, lst [x0, x1, 0, x3, 0], (fun _ => 0), fun _ => 0, fun _ => 0, fun _ => 0, hz.2, fun _ _ h => h, fun j hj => ?_, fun hn => absurd rfl hn, fun j => ⟨lo0 _ j, hi0 _ j⟩, fun j _ => ⟨le0 _, he0 _⟩⟩
  have hj14 := rkO_lt hj
  rcases (show j = 0 ∨ j = 1 ∨ j = 2 ∨ j = 3 ∨ j = 4 ∨ j = 5 ∨ j = 6 ∨ j = 7 ∨ j = 8 ∨ j = 9 ∨ j = 10 ∨ j = 11 ∨ j = 12 ∨ j = 13 by omega) with rfl | rfl | rfl | rfl | rfl | rfl | rfl | rfl | rfl | rfl | rfl | rfl | rfl | rfl
  · exact h0
  · exact h1
  · exact absurd rfl hj
  · exact h3
  · exact absurd rfl hj
  · exact absurd rfl hj
  · exact absurd rfl hj
  · exact absurd rfl hj
  · exact absurd rfl hj
  · exact absurd rfl hj
  · exact absurd rfl hj
  · exact absurd rfl hj
  · exact absurd rfl hj
  · exact absurd rfl hj
theorem ok_7 {x0 x3 : Nat} (hz : z ∈ L ∧ K z = 7) (h0 : x0 ∈ L ∧ K x0 = 3) (h3 : x3 ∈ L ∧ K x3 = 34) : okC cy L K z (.inr (7, [.ref x0, .int 0, .int 0, .ref x3, .int 0])) := by
  refine ⟨7, lst [x0, 0, 0, x3, 0], (fun _ => 0), fun _ => 0, fun _ => 0, fun _ => 0, hz.2, fun _ _ h => h, fun j hj => ?_, fun hn => absurd rfl hn, fun j => ⟨lo0 _ j, hi0 _ j⟩, fun j _ => ⟨le0 _, he0 _⟩⟩
  have hj14 := rkO_lt hj
  rcases (show j = 0 ∨ j = 1 ∨ j = 2 ∨ j = 3 ∨ j = 4 ∨ j = 5 ∨ j = 6 ∨ j = 7 ∨ j = 8 ∨ j = 9 ∨ j = 10 ∨ j = 11 ∨ j = 12 ∨ j = 13 by omega) with rfl | rfl | rfl | rfl | rfl | rfl | rfl | rfl | rfl | rfl | rfl | rfl | rfl | rfl
  · exact h0
  · exact absurd rfl hj
  · exact absurd rfl hj
  · exact h3
  · exact absurd rfl hj
  · exact absurd rfl hj
  · exact absurd rfl hj
  · exact absurd rfl hj
  · exact absurd rfl hj
  · exact absurd rfl hj
  · exact absurd rfl hj
  · exact absurd rfl hj
  · exact absurd rfl hj
  · exact absurd rfl hj
theorem ok_8 {x0 x1 x2 x3 x4 : Nat} (hz : z ∈ L ∧ K z = 8) (h0 : x0 ∈ L ∧ K x0 = 36) (h1 : x1 ∈ L ∧ K x1 = 37) (h2 : x2 ∈ L ∧ K x2 = 37) (h3 : x3 ∈ L ∧ K x3 = 38) (h4 : x4 ∈ L ∧ K x4 = 38) : okC cy L K z (.inr (10, [.ref x0, .ref x1, .ref x2, .ref x3, .ref x4, .int 0])) := by
  refine ⟨8, lst [x0, x1, x2, x3, x4, 0], (fun _ => 0), fun _ => 0, fun _ => 0, fun _ => 0, hz.2, fun _ _ h => h, fun j hj => ?_, fun hn => absurd rfl hn, fun j => ⟨lo0 _ j, hi0 _ j⟩, fun j _ => ⟨le0 _, he0 _⟩⟩
  have hj14 := rkO_lt hj
  rcases (show j = 0 ∨ j = 1 ∨ j = 2 ∨ j = 3 ∨ j = 4 ∨ j = 5 ∨ j = 6 ∨ j = 7 ∨ j = 8 ∨ j = 9 ∨ j = 10 ∨ j = 11 ∨ j = 12 ∨ j = 13 by omega) with rfl | rfl | rfl | rfl | rfl | rfl | rfl | rfl | rfl | rfl | rfl | rfl | rfl | rfl
  · exact h0
  · exact h1
  · exact h2
  · exact h3
  · exact h4
  · exact absurd rfl hj
  · exact absurd rfl hj
  · exact absurd rfl hj
  · exact absurd rfl hj
  · exact absurd rfl hj
  · exact absurd rfl hj
  · exact absurd rfl hj
  · exact absurd rfl hj
  · exact absurd rfl hj
theorem ok_9 {x0 : Nat} (hz : z ∈ L ∧ K z = 9) (h0 : x0 ∈ L ∧ K x0 = 39) : okC cy L K z (.inr (1, [.ref x0, .int 0, .int 0])) := by
  refine ⟨9, lst [x0, 0, 0], (fun _ => 0), fun _ => 0, fun _ => 0, fun _ => 0, hz.2, fun _ _ h => h, fun j hj => ?_, fun hn => absurd rfl hn, fun j => ⟨lo0 _ j, hi0 _ j⟩, fun j _ => ⟨le0 _, he0 _⟩⟩
  have hj14 := rkO_lt hj
  rcases (show j = 0 ∨ j = 1 ∨ j = 2 ∨ j = 3 ∨ j = 4 ∨ j = 5 ∨ j = 6 ∨ j = 7 ∨ j = 8 ∨ j = 9 ∨ j = 10 ∨ j = 11 ∨ j = 12 ∨ j = 13 by omega) with rfl | rfl | rfl | rfl | rfl | rfl | rfl | rfl | rfl | rfl | rfl | rfl | rfl | rfl
  · exact h0
  · exact absurd rfl hj
  · exact absurd rfl hj
  · exact absurd rfl hj
  · exact absurd rfl hj
  · exact absurd rfl hj
  · exact absurd rfl hj
  · exact absurd rfl hj
  · exact absurd rfl hj
  · exact absurd rfl hj
  · exact absurd rfl hj
  · exact absurd rfl hj
  · exact absurd rfl hj
  · exact absurd rfl hj
theorem ok_10 {x0 x1 x3 x4 x5 : Nat} (hz : z ∈ L ∧ K z = 10) (h0 : x0 ∈ L ∧ K x0 = 40) (h1 : x1 ∈ L ∧ K x1 = 41) (h3 : x3 ∈ L ∧ K x3 = 42) (h4 : x4 ∈ L ∧ K x4 = 44) (h5 : x5 ∈ L ∧ K x5 = 45) : okC cy L K z (.inr (3, [.ref x0, .ref x1, .int 0, .ref x3, .ref x4, .ref x5, .int 0])) := by
  refine ⟨10, lst [x0, x1, 0, x3, x4, x5, 0], (fun _ => 0), fun _ => 0, fun _ => 0, fun _ => 0, hz.2, fun _ _ h => h, fun j hj => ?_, fun hn => absurd rfl hn, fun j => ⟨lo0 _ j, hi0 _ j⟩, fun j _ => ⟨le0 _, he0 _⟩⟩
  have hj14 := rkO_lt hj
  rcases (show j = 0 ∨ j = 1 ∨ j = 2 ∨ j = 3 ∨ j = 4 ∨ j = 5 ∨ j = 6 ∨ j = 7 ∨ j = 8 ∨ j = 9 ∨ j = 10 ∨ j = 11 ∨ j = 12 ∨ j = 13 by omega) with rfl | rfl | rfl | rfl | rfl | rfl | rfl | rfl | rfl | rfl | rfl | rfl | rfl | rfl
  · exact h0
  · exact h1
  · exact absurd rfl hj
  · exact h3
  · exact h4
  · exact h5
  · exact absurd rfl hj
  · exact absurd rfl hj
  · exact absurd rfl hj
  · exact absurd rfl hj
  · exact absurd rfl hj
  · exact absurd rfl hj
  · exact absurd rfl hj
  · exact absurd rfl hj
theorem ok_11 {x0 : Nat} (hz : z ∈ L ∧ K z = 11) (h0 : x0 ∈ L ∧ K x0 = 46) : okC cy L K z (.inr (0, [.ref x0, .int 0])) := by
  refine ⟨11, lst [x0, 0], (fun _ => 0), fun _ => 0, fun _ => 0, fun _ => 0, hz.2, fun _ _ h => h, fun j hj => ?_, fun hn => absurd rfl hn, fun j => ⟨lo0 _ j, hi0 _ j⟩, fun j _ => ⟨le0 _, he0 _⟩⟩
  have hj14 := rkO_lt hj
  rcases (show j = 0 ∨ j = 1 ∨ j = 2 ∨ j = 3 ∨ j = 4 ∨ j = 5 ∨ j = 6 ∨ j = 7 ∨ j = 8 ∨ j = 9 ∨ j = 10 ∨ j = 11 ∨ j = 12 ∨ j = 13 by omega) with rfl | rfl | rfl | rfl | rfl | rfl | rfl | rfl | rfl | rfl | rfl | rfl | rfl | rfl
  · exact h0
  · exact absurd rfl hj
  · exact absurd rfl hj
  · exact absurd rfl hj
  · exact absurd rfl hj
  · exact absurd rfl hj
  · exact absurd rfl hj
  · exact absurd rfl hj
  · exact absurd rfl hj
  · exact absurd rfl hj
  · exact absurd rfl hj
  · exact absurd rfl hj
  · exact absurd rfl hj
  · exact absurd rfl hj
theorem ok_20 (hz : z ∈ L ∧ K z = 20) : okC cy L K z (.inl (cy 1, 1700, .inl (fun _ => 0))) := ⟨20, fun _ => 0, fun _ => 0, fun _ => 0, fun _ => 0, fun _ => 0, hz.2, fun _ _ h => h, fun j hj => absurd (rkO_hi (by decide)) hj, fun hn => absurd rfl hn, fun j => ⟨lo0 _ j, hi0 _ j⟩, fun j _ => ⟨le0 _, he0 _⟩⟩
theorem ok_21 (hz : z ∈ L ∧ K z = 21) : okC cy L K z (.inl (cy 0, 12, .inl (fun _ => 0))) := ⟨21, fun _ => 0, fun _ => 0, fun _ => 0, fun _ => 0, fun _ => 0, hz.2, fun _ _ h => h, fun j hj => absurd (rkO_hi (by decide)) hj, fun hn => absurd rfl hn, fun j => ⟨lo0 _ j, hi0 _ j⟩, fun j _ => ⟨le0 _, he0 _⟩⟩
theorem ok_22 (hz : z ∈ L ∧ K z = 22) : okC cy L K z (.inl (cy 0, 12, .inl (fun _ => 0))) := ⟨22, fun _ => 0, fun _ => 0, fun _ => 0, fun _ => 0, fun _ => 0, hz.2, fun _ _ h => h, fun j hj => absurd (rkO_hi (by decide)) hj, fun hn => absurd rfl hn, fun j => ⟨lo0 _ j, hi0 _ j⟩, fun j _ => ⟨le0 _, he0 _⟩⟩
theorem ok_23 (hz : z ∈ L ∧ K z = 23) : okC cy L K z (.inl (cy 0, 40, .inl (fun _ => 0))) := ⟨23, fun _ => 0, fun _ => 0, fun _ => 0, fun _ => 0, fun _ => 0, hz.2, fun _ _ h => h, fun j hj => absurd (rkO_hi (by decide)) hj, fun hn => absurd rfl hn, fun j => ⟨lo0 _ j, hi0 _ j⟩, fun j _ => ⟨le0 _, he0 _⟩⟩
theorem ok_24 (hz : z ∈ L ∧ K z = 24) : okC cy L K z (.inl (cy 0, 40, .inl (fun _ => 0))) := ⟨24, fun _ => 0, fun _ => 0, fun _ => 0, fun _ => 0, fun _ => 0, hz.2, fun _ _ h => h, fun j hj => absurd (rkO_hi (by decide)) hj, fun hn => absurd rfl hn, fun j => ⟨lo0 _ j, hi0 _ j⟩, fun j _ => ⟨le0 _, he0 _⟩⟩
theorem ok_25 (hz : z ∈ L ∧ K z = 25) : okC cy L K z (.inl (cy 0, 14, .inl (fun _ => 0))) := ⟨25, fun _ => 0, fun _ => 0, fun _ => 0, fun _ => 0, fun _ => 0, hz.2, fun _ _ h => h, fun j hj => absurd (rkO_hi (by decide)) hj, fun hn => absurd rfl hn, fun j => ⟨lo0 _ j, hi0 _ j⟩, fun j _ => ⟨le0 _, he0 _⟩⟩
theorem ok_26 (hz : z ∈ L ∧ K z = 26) : okC cy L K z (.inl (cy 0, 540, .inl (fun _ => 0))) := ⟨26, fun _ => 0, fun _ => 0, fun _ => 0, fun _ => 0, fun _ => 0, hz.2, fun _ _ h => h, fun j hj => absurd (rkO_hi (by decide)) hj, fun hn => absurd rfl hn, fun j => ⟨lo0 _ j, hi0 _ j⟩, fun j _ => ⟨le0 _, he0 _⟩⟩
theorem ok_27 (hz : z ∈ L ∧ K z = 27) : okC cy L K z (.inl (cy 0, 540, .inl (fun _ => 0))) := ⟨27, fun _ => 0, fun _ => 0, fun _ => 0, fun _ => 0, fun _ => 0, hz.2, fun _ _ h => h, fun j hj => absurd (rkO_hi (by decide)) hj, fun hn => absurd rfl hn, fun j => ⟨lo0 _ j, hi0 _ j⟩, fun j _ => ⟨le0 _, he0 _⟩⟩
theorem ok_28 (hz : z ∈ L ∧ K z = 28) : okC cy L K z (.inl (cy 0, 61, .inl (fun _ => 0))) := ⟨28, fun _ => 0, fun _ => 0, fun _ => 0, fun _ => 0, fun _ => 0, hz.2, fun _ _ h => h, fun j hj => absurd (rkO_hi (by decide)) hj, fun hn => absurd rfl hn, fun j => ⟨lo0 _ j, hi0 _ j⟩, fun j _ => ⟨le0 _, he0 _⟩⟩
theorem ok_30 (hz : z ∈ L ∧ K z = 30) : okC cy L K z (.inl (cy 3, 14, .inr (.inl (fun _ => 0)))) := ⟨30, fun _ => 0, fun _ => 0, fun _ => 0, fun _ => 0, fun _ => 0, hz.2, fun _ _ h => h, fun j hj => absurd (rkO_hi (by decide)) hj, fun hn => absurd rfl hn, fun j => ⟨lo0 _ j, hi0 _ j⟩, fun j _ => ⟨le0 _, he0 _⟩⟩
theorem ok_33 (hz : z ∈ L ∧ K z = 33) : okC cy L K z (.inl (cy 2, 12, .inl (fun _ => 0))) := ⟨33, fun _ => 0, fun _ => 0, fun _ => 0, fun _ => 0, fun _ => 0, hz.2, fun _ _ h => h, fun j hj => absurd (rkO_hi (by decide)) hj, fun hn => absurd rfl hn, fun j => ⟨lo0 _ j, hi0 _ j⟩, fun j _ => ⟨le0 _, he0 _⟩⟩
theorem ok_34 (hz : z ∈ L ∧ K z = 34) : okC cy L K z (.inl (cy 0, 8, .inl (fun _ => 0))) := ⟨34, fun _ => 0, fun _ => 0, fun _ => 0, fun _ => 0, fun _ => 0, hz.2, fun _ _ h => h, fun j hj => absurd (rkO_hi (by decide)) hj, fun hn => absurd rfl hn, fun j => ⟨lo0 _ j, hi0 _ j⟩, fun j _ => ⟨le0 _, he0 _⟩⟩
theorem ok_36 (hz : z ∈ L ∧ K z = 36) : okC cy L K z (.inl (cy 0, 30, .inl (fun _ => 0))) := ⟨36, fun _ => 0, fun _ => 0, fun _ => 0, fun _ => 0, fun _ => 0, hz.2, fun _ _ h => h, fun j hj => absurd (rkO_hi (by decide)) hj, fun hn => absurd rfl hn, fun j => ⟨lo0 _ j, hi0 _ j⟩, fun j _ => ⟨le0 _, he0 _⟩⟩
theorem ok_37 (hz : z ∈ L ∧ K z = 37) : okC cy L K z (.inl (cy 2, 30, .inl (fun _ => 0))) := ⟨37, fun _ => 0, fun _ => 0, fun _ => 0, fun _ => 0, fun _ => 0, hz.2, fun _ _ h => h, fun j hj => absurd (rkO_hi (by decide)) hj, fun hn => absurd rfl hn, fun j => ⟨lo0 _ j, hi0 _ j⟩, fun j _ => ⟨le0 _, he0 _⟩⟩
theorem ok_38 (hz : z ∈ L ∧ K z = 38) : okC cy L K z (.inl (cy 0, 30, .inl (fun _ => 0))) := ⟨38, fun _ => 0, fun _ => 0, fun _ => 0, fun _ => 0, fun _ => 0, hz.2, fun _ _ h => h, fun j hj => absurd (rkO_hi (by decide)) hj, fun hn => absurd rfl hn, fun j => ⟨lo0 _ j, hi0 _ j⟩, fun j _ => ⟨le0 _, he0 _⟩⟩
theorem ok_39 (hz : z ∈ L ∧ K z = 39) : okC cy L K z (.inl (cy 0, 14, .inl (fun _ => 0))) := ⟨39, fun _ => 0, fun _ => 0, fun _ => 0, fun _ => 0, fun _ => 0, hz.2, fun _ _ h => h, fun j hj => absurd (rkO_hi (by decide)) hj, fun hn => absurd rfl hn, fun j => ⟨lo0 _ j, hi0 _ j⟩, fun j _ => ⟨le0 _, he0 _⟩⟩
theorem ok_40 (hz : z ∈ L ∧ K z = 40) : okC cy L K z (.inl (cy 0, 6, .inl (fun _ => 0))) := ⟨40, fun _ => 0, fun _ => 0, fun _ => 0, fun _ => 0, fun _ => 0, hz.2, fun _ _ h => h, fun j hj => absurd (rkO_hi (by decide)) hj, fun hn => absurd rfl hn, fun j => ⟨lo0 _ j, hi0 _ j⟩, fun j _ => ⟨le0 _, he0 _⟩⟩
theorem ok_41 (hz : z ∈ L ∧ K z = 41) : okC cy L K z (.inl (cy 0, 6, .inl (fun _ => 0))) := ⟨41, fun _ => 0, fun _ => 0, fun _ => 0, fun _ => 0, fun _ => 0, hz.2, fun _ _ h => h, fun j hj => absurd (rkO_hi (by decide)) hj, fun hn => absurd rfl hn, fun j => ⟨lo0 _ j, hi0 _ j⟩, fun j _ => ⟨le0 _, he0 _⟩⟩
theorem ok_43 (hz : z ∈ L ∧ K z = 43) : okC cy L K z (.inl (cy 0, 6, .inl (fun _ => 0))) := ⟨43, fun _ => 0, fun _ => 0, fun _ => 0, fun _ => 0, fun _ => 0, hz.2, fun _ _ h => h, fun j hj => absurd (rkO_hi (by decide)) hj, fun hn => absurd rfl hn, fun j => ⟨lo0 _ j, hi0 _ j⟩, fun j _ => ⟨le0 _, he0 _⟩⟩
theorem ok_44 (hz : z ∈ L ∧ K z = 44) : okC cy L K z (.inl (cy 0, 6, .inl (fun _ => 0))) := ⟨44, fun _ => 0, fun _ => 0, fun _ => 0, fun _ => 0, fun _ => 0, hz.2, fun _ _ h => h, fun j hj => absurd (rkO_hi (by decide)) hj, fun hn => absurd rfl hn, fun j => ⟨lo0 _ j, hi0 _ j⟩, fun j _ => ⟨le0 _, he0 _⟩⟩
theorem ok_45 (hz : z ∈ L ∧ K z = 45) : okC cy L K z (.inl (cy 0, 6, .inl (fun _ => 0))) := ⟨45, fun _ => 0, fun _ => 0, fun _ => 0, fun _ => 0, fun _ => 0, hz.2, fun _ _ h => h, fun j hj => absurd (rkO_hi (by decide)) hj, fun hn => absurd rfl hn, fun j => ⟨lo0 _ j, hi0 _ j⟩, fun j _ => ⟨le0 _, he0 _⟩⟩
theorem ok_46 (hz : z ∈ L ∧ K z = 46) : okC cy L K z (.inl (cy 0, 108, .inl (fun _ => 0))) := ⟨46, fun _ => 0, fun _ => 0, fun _ => 0, fun _ => 0, fun _ => 0, hz.2, fun _ _ h => h, fun j hj => absurd (rkO_hi (by decide)) hj, fun hn => absurd rfl hn, fun j => ⟨lo0 _ j, hi0 _ j⟩, fun j _ => ⟨le0 _, he0 _⟩⟩
theorem ok_29 {f : Nat → Option Nat} {r : Nat → Nat} (hz : z ∈ L ∧ K z = 29) (hf : ∀ j, j < 14 → f j = some (r j) ∧ r j ∈ L ∧ K (r j) = 2) : okC cy L K z (.inl (cy 4, 14, .inr (.inr (.inr (.inr f))))) := ⟨29, r, fun _ => 0, fun _ => 0, fun _ => 0, fun _ => 0, hz.2, fun _ _ h => at_q (fun j hj => (hf j hj).1) h, fun j hj => absurd (rkO_hi (by decide)) hj, fun _ j hj => (hf j hj).2, fun j => ⟨lo0 _ j, hi0 _ j⟩, fun j _ => ⟨le0 _, he0 _⟩⟩
theorem ok_31 {f : Nat → Option Nat} {r : Nat → Nat} (hz : z ∈ L ∧ K z = 31) (hf : ∀ j, j < 14 → f j = some (r j) ∧ r j ∈ L ∧ K (r j) = 4) : okC cy L K z (.inl (cy 5, 14, .inr (.inr (.inr (.inr f))))) := ⟨31, r, fun _ => 0, fun _ => 0, fun _ => 0, fun _ => 0, hz.2, fun _ _ h => at_q (fun j hj => (hf j hj).1) h, fun j hj => absurd (rkO_hi (by decide)) hj, fun _ j hj => (hf j hj).2, fun j => ⟨lo0 _ j, hi0 _ j⟩, fun j _ => ⟨le0 _, he0 _⟩⟩
theorem ok_32 {f : Nat → Option Nat} {r : Nat → Nat} (hz : z ∈ L ∧ K z = 32) (hf : ∀ j, j < 8 → f j = some (r j) ∧ r j ∈ L ∧ K (r j) = 5) : okC cy L K z (.inl (cy 6, 8, .inr (.inr (.inr (.inr f))))) := ⟨32, r, fun _ => 0, fun _ => 0, fun _ => 0, fun _ => 0, hz.2, fun _ _ h => at_q (fun j hj => (hf j hj).1) h, fun j hj => absurd (rkO_hi (by decide)) hj, fun _ j hj => (hf j hj).2, fun j => ⟨lo0 _ j, hi0 _ j⟩, fun j _ => ⟨le0 _, he0 _⟩⟩
theorem ok_35 {f : Nat → Option Nat} {r : Nat → Nat} (hz : z ∈ L ∧ K z = 35) (hf : ∀ j, j < 3 → f j = some (r j) ∧ r j ∈ L ∧ K (r j) = 7) : okC cy L K z (.inl (cy 7, 3, .inr (.inr (.inr (.inr f))))) := ⟨35, r, fun _ => 0, fun _ => 0, fun _ => 0, fun _ => 0, hz.2, fun _ _ h => at_q (fun j hj => (hf j hj).1) h, fun j hj => absurd (rkO_hi (by decide)) hj, fun _ j hj => (hf j hj).2, fun j => ⟨lo0 _ j, hi0 _ j⟩, fun j _ => ⟨le0 _, he0 _⟩⟩
theorem ok_42 {f : Nat → Option Nat} {r : Nat → Nat} (hz : z ∈ L ∧ K z = 42) (hf : ∀ j, j < 6 → f j = some (r j) ∧ r j ∈ L ∧ K (r j) = 43) : okC cy L K z (.inl (cy 8, 6, .inr (.inr (.inr (.inr f))))) := ⟨42, r, fun _ => 0, fun _ => 0, fun _ => 0, fun _ => 0, hz.2, fun _ _ h => at_q (fun j hj => (hf j hj).1) h, fun j hj => absurd (rkO_hi (by decide)) hj, fun _ j hj => (hf j hj).2, fun j => ⟨lo0 _ j, hi0 _ j⟩, fun j _ => ⟨le0 _, he0 _⟩⟩
end POOLOK
def ksT : List Nat := [1, 29, 30, 31, 32, 33, 6, 26, 27, 28, 2, 21, 22, 4, 25, 25, 25, 25, 2, 21, 22, 4, 25, 25, 25, 25, 2, 21, 22, 4, 25, 25, 25, 25, 2, 21, 22, 4, 25, 25, 25, 25, 2, 21, 22, 4, 25, 25, 25, 25, 2, 21, 22, 4, 25, 25, 25, 25, 2, 21, 22, 4, 25, 25, 25, 25, 2, 21, 22, 4, 25, 25, 25, 25, 2, 21, 22, 4, 25, 25, 25, 25, 2, 21, 22, 4, 25, 25, 25, 25, 2, 21, 22, 4, 25, 25, 25, 25, 2, 21, 22, 4, 25, 25, 25, 25, 2, 21, 22, 4, 25, 25, 25, 25, 2, 21, 22, 4, 25, 25, 25, 25, 5, 5, 5, 5, 5, 5, 5, 5]
set_option maxHeartbeats 4000000 in
set_option maxRecDepth 100000 in
theorem town_ok {cy : Nat → ClassId} {L : List Nat} {K : Nat → Nat} {h : Nat} {a : Nat → Nat} (hf : Fct L K (TWn cy h a) ksT) : ∀ c ∈ TWn cy h a, okC cy L K c.1 c.2 := by
  have f0 := hf 0 _ _ _ rfl rfl
  have f1 := hf 1 _ _ _ rfl rfl
  have f2 := hf 2 _ _ _ rfl rfl
  have f3 := hf 3 _ _ _ rfl rfl
  have f4 := hf 4 _ _ _ rfl rfl
  have f5 := hf 5 _ _ _ rfl rfl
  have f6 := hf 6 _ _ _ rfl rfl
  have f7 := hf 7 _ _ _ rfl rfl
  have f8 := hf 8 _ _ _ rfl rfl
  have f9 := hf 9 _ _ _ rfl rfl
  have f10 := hf 10 _ _ _ rfl rfl
  have f11 := hf 11 _ _ _ rfl rfl
  have f12 := hf 12 _ _ _ rfl rfl
  have f13 := hf 13 _ _ _ rfl rfl
  have f14 := hf 14 _ _ _ rfl rfl
  have f15 := hf 15 _ _ _ rfl rfl
  have f16 := hf 16 _ _ _ rfl rfl
  have f17 := hf 17 _ _ _ rfl rfl
  have f18 := hf 18 _ _ _ rfl rfl
  have f19 := hf 19 _ _ _ rfl rfl
  have f20 := hf 20 _ _ _ rfl rfl
  have f21 := hf 21 _ _ _ rfl rfl
  have f22 := hf 22 _ _ _ rfl rfl
  have f23 := hf 23 _ _ _ rfl rfl
  have f24 := hf 24 _ _ _ rfl rfl
  have f25 := hf 25 _ _ _ rfl rfl
  have f26 := hf 26 _ _ _ rfl rfl
  have f27 := hf 27 _ _ _ rfl rfl
  have f28 := hf 28 _ _ _ rfl rfl
  have f29 := hf 29 _ _ _ rfl rfl
  have f30 := hf 30 _ _ _ rfl rfl
  have f31 := hf 31 _ _ _ rfl rfl
  have f32 := hf 32 _ _ _ rfl rfl
  have f33 := hf 33 _ _ _ rfl rfl
  have f34 := hf 34 _ _ _ rfl rfl
  have f35 := hf 35 _ _ _ rfl rfl
  have f36 := hf 36 _ _ _ rfl rfl
  have f37 := hf 37 _ _ _ rfl rfl
  have f38 := hf 38 _ _ _ rfl rfl
  have f39 := hf 39 _ _ _ rfl rfl
  have f40 := hf 40 _ _ _ rfl rfl
  have f41 := hf 41 _ _ _ rfl rfl
  have f42 := hf 42 _ _ _ rfl rfl
  have f43 := hf 43 _ _ _ rfl rfl
  have f44 := hf 44 _ _ _ rfl rfl
  have f45 := hf 45 _ _ _ rfl rfl
  have f46 := hf 46 _ _ _ rfl rfl
  have f47 := hf 47 _ _ _ rfl rfl
  have f48 := hf 48 _ _ _ rfl rfl
  have f49 := hf 49 _ _ _ rfl rfl
  have f50 := hf 50 _ _ _ rfl rfl
  have f51 := hf 51 _ _ _ rfl rfl
  have f52 := hf 52 _ _ _ rfl rfl
  have f53 := hf 53 _ _ _ rfl rfl
  have f54 := hf 54 _ _ _ rfl rfl
  have f55 := hf 55 _ _ _ rfl rfl
  have f56 := hf 56 _ _ _ rfl rfl
  have f57 := hf 57 _ _ _ rfl rfl
  have f58 := hf 58 _ _ _ rfl rfl
  have f59 := hf 59 _ _ _ rfl rfl
  have f60 := hf 60 _ _ _ rfl rfl
  have f61 := hf 61 _ _ _ rfl rfl
  have f62 := hf 62 _ _ _ rfl rfl
  have f63 := hf 63 _ _ _ rfl rfl
  have f64 := hf 64 _ _ _ rfl rfl
  have f65 := hf 65 _ _ _ rfl rfl
  have f66 := hf 66 _ _ _ rfl rfl
  have f67 := hf 67 _ _ _ rfl rfl
  have f68 := hf 68 _ _ _ rfl rfl
  have f69 := hf 69 _ _ _ rfl rfl
  have f70 := hf 70 _ _ _ rfl rfl
  have f71 := hf 71 _ _ _ rfl rfl
  have f72 := hf 72 _ _ _ rfl rfl
  have f73 := hf 73 _ _ _ rfl rfl
  have f74 := hf 74 _ _ _ rfl rfl
  have f75 := hf 75 _ _ _ rfl rfl
  have f76 := hf 76 _ _ _ rfl rfl
  have f77 := hf 77 _ _ _ rfl rfl
  have f78 := hf 78 _ _ _ rfl rfl
  have f79 := hf 79 _ _ _ rfl rfl
  have f80 := hf 80 _ _ _ rfl rfl
  have f81 := hf 81 _ _ _ rfl rfl
  have f82 := hf 82 _ _ _ rfl rfl
  have f83 := hf 83 _ _ _ rfl rfl
  have f84 := hf 84 _ _ _ rfl rfl
  have f85 := hf 85 _ _ _ rfl rfl
  have f86 := hf 86 _ _ _ rfl rfl
  have f87 := hf 87 _ _ _ rfl rfl
  have f88 := hf 88 _ _ _ rfl rfl
  have f89 := hf 89 _ _ _ rfl rfl
  have f90 := hf 90 _ _ _ rfl rfl
  have f91 := hf 91 _ _ _ rfl rfl
  have f92 := hf 92 _ _ _ rfl rfl
  have f93 := hf 93 _ _ _ rfl rfl
  have f94 := hf 94 _ _ _ rfl rfl
  have f95 := hf 95 _ _ _ rfl rfl
  have f96 := hf 96 _ _ _ rfl rfl
  have f97 := hf 97 _ _ _ rfl rfl
  have f98 := hf 98 _ _ _ rfl rfl
  have f99 := hf 99 _ _ _ rfl rfl
  have f100 := hf 100 _ _ _ rfl rfl
  have f101 := hf 101 _ _ _ rfl rfl
  have f102 := hf 102 _ _ _ rfl rfl
  have f103 := hf 103 _ _ _ rfl rfl
  have f104 := hf 104 _ _ _ rfl rfl
  have f105 := hf 105 _ _ _ rfl rfl
  have f106 := hf 106 _ _ _ rfl rfl
  have f107 := hf 107 _ _ _ rfl rfl
  have f108 := hf 108 _ _ _ rfl rfl
  have f109 := hf 109 _ _ _ rfl rfl
  have f110 := hf 110 _ _ _ rfl rfl
  have f111 := hf 111 _ _ _ rfl rfl
  have f112 := hf 112 _ _ _ rfl rfl
  have f113 := hf 113 _ _ _ rfl rfl
  have f114 := hf 114 _ _ _ rfl rfl
  have f115 := hf 115 _ _ _ rfl rfl
  have f116 := hf 116 _ _ _ rfl rfl
  have f117 := hf 117 _ _ _ rfl rfl
  have f118 := hf 118 _ _ _ rfl rfl
  have f119 := hf 119 _ _ _ rfl rfl
  have f120 := hf 120 _ _ _ rfl rfl
  have f121 := hf 121 _ _ _ rfl rfl
  have f122 := hf 122 _ _ _ rfl rfl
  have f123 := hf 123 _ _ _ rfl rfl
  have f124 := hf 124 _ _ _ rfl rfl
  have f125 := hf 125 _ _ _ rfl rfl
  have f126 := hf 126 _ _ _ rfl rfl
  have f127 := hf 127 _ _ _ rfl rfl
  have f128 := hf 128 _ _ _ rfl rfl
  have f129 := hf 129 _ _ _ rfl rfl
  have g1 := ok_29 (cy := cy) (f := (va_up (va_up (va_up (va_up (va_up (va_up (va_up (va_up (va_up (va_up (va_up (va_up (va_up (va_up (fun _ => none) 0 (some (a 10))) 1 (some (a 18))) 2 (some (a 26))) 3 (some (a 34))) 4 (some (a 42))) 5 (some (a 50))) 6 (some (a 58))) 7 (some (a 66))) 8 (some (a 74))) 9 (some (a 82))) 10 (some (a 90))) 11 (some (a 98))) 12 (some (a 106))) 13 (some (a 114)))) (r := (lst [(a 10), (a 18), (a 26), (a 34), (a 42), (a 50), (a 58), (a 66), (a 74), (a 82), (a 90), (a 98), (a 106), (a 114)])) f1 (fun j hj => by
    rcases (show j = 0 ∨ j = 1 ∨ j = 2 ∨ j = 3 ∨ j = 4 ∨ j = 5 ∨ j = 6 ∨ j = 7 ∨ j = 8 ∨ j = 9 ∨ j = 10 ∨ j = 11 ∨ j = 12 ∨ j = 13 by omega) with rfl | rfl | rfl | rfl | rfl | rfl | rfl | rfl | rfl | rfl | rfl | rfl | rfl | rfl
    · exact ⟨rfl, f10⟩
    · exact ⟨rfl, f18⟩
    · exact ⟨rfl, f26⟩
    · exact ⟨rfl, f34⟩
    · exact ⟨rfl, f42⟩
    · exact ⟨rfl, f50⟩
    · exact ⟨rfl, f58⟩
    · exact ⟨rfl, f66⟩
    · exact ⟨rfl, f74⟩
    · exact ⟨rfl, f82⟩
    · exact ⟨rfl, f90⟩
    · exact ⟨rfl, f98⟩
    · exact ⟨rfl, f106⟩
    · exact ⟨rfl, f114⟩)
  have g3 := ok_31 (cy := cy) (f := (va_up (va_up (va_up (va_up (va_up (va_up (va_up (va_up (va_up (va_up (va_up (va_up (va_up (va_up (fun _ => none) 0 (some (a 13))) 1 (some (a 21))) 2 (some (a 29))) 3 (some (a 37))) 4 (some (a 45))) 5 (some (a 53))) 6 (some (a 61))) 7 (some (a 69))) 8 (some (a 77))) 9 (some (a 85))) 10 (some (a 93))) 11 (some (a 101))) 12 (some (a 109))) 13 (some (a 117)))) (r := (lst [(a 13), (a 21), (a 29), (a 37), (a 45), (a 53), (a 61), (a 69), (a 77), (a 85), (a 93), (a 101), (a 109), (a 117)])) f3 (fun j hj => by
    rcases (show j = 0 ∨ j = 1 ∨ j = 2 ∨ j = 3 ∨ j = 4 ∨ j = 5 ∨ j = 6 ∨ j = 7 ∨ j = 8 ∨ j = 9 ∨ j = 10 ∨ j = 11 ∨ j = 12 ∨ j = 13 by omega) with rfl | rfl | rfl | rfl | rfl | rfl | rfl | rfl | rfl | rfl | rfl | rfl | rfl | rfl
    · exact ⟨rfl, f13⟩
    · exact ⟨rfl, f21⟩
    · exact ⟨rfl, f29⟩
    · exact ⟨rfl, f37⟩
    · exact ⟨rfl, f45⟩
    · exact ⟨rfl, f53⟩
    · exact ⟨rfl, f61⟩
    · exact ⟨rfl, f69⟩
    · exact ⟨rfl, f77⟩
    · exact ⟨rfl, f85⟩
    · exact ⟨rfl, f93⟩
    · exact ⟨rfl, f101⟩
    · exact ⟨rfl, f109⟩
    · exact ⟨rfl, f117⟩)
  have g4 := ok_32 (cy := cy) (f := (va_up (va_up (va_up (va_up (va_up (va_up (va_up (va_up (fun _ => none) 0 (some (a 122))) 1 (some (a 123))) 2 (some (a 124))) 3 (some (a 125))) 4 (some (a 126))) 5 (some (a 127))) 6 (some (a 128))) 7 (some (a 129)))) (r := (lst [(a 122), (a 123), (a 124), (a 125), (a 126), (a 127), (a 128), (a 129)])) f4 (fun j hj => by
    rcases (show j = 0 ∨ j = 1 ∨ j = 2 ∨ j = 3 ∨ j = 4 ∨ j = 5 ∨ j = 6 ∨ j = 7 by omega) with rfl | rfl | rfl | rfl | rfl | rfl | rfl | rfl
    · exact ⟨rfl, f122⟩
    · exact ⟨rfl, f123⟩
    · exact ⟨rfl, f124⟩
    · exact ⟨rfl, f125⟩
    · exact ⟨rfl, f126⟩
    · exact ⟨rfl, f127⟩
    · exact ⟨rfl, f128⟩
    · exact ⟨rfl, f129⟩)
  unfold TWn
  refine List.forall_mem_cons.mpr ⟨ok_1 f0 f1 f2 f3 f4 f6 f5, ?_⟩
  refine List.forall_mem_cons.mpr ⟨g1, ?_⟩
  refine List.forall_mem_cons.mpr ⟨ok_30 f2, ?_⟩
  refine List.forall_mem_cons.mpr ⟨g3, ?_⟩
  refine List.forall_mem_cons.mpr ⟨g4, ?_⟩
  refine List.forall_mem_cons.mpr ⟨ok_33 f5, ?_⟩
  refine List.forall_mem_cons.mpr ⟨ok_6 f6 f7 f8 f9, ?_⟩
  refine List.forall_mem_cons.mpr ⟨ok_26 f7, ?_⟩
  refine List.forall_mem_cons.mpr ⟨ok_27 f8, ?_⟩
  refine List.forall_mem_cons.mpr ⟨ok_28 f9, ?_⟩
  refine List.forall_mem_cons.mpr ⟨ok_2 f10 f11 f12, ?_⟩
  refine List.forall_mem_cons.mpr ⟨ok_21 f11, ?_⟩
  refine List.forall_mem_cons.mpr ⟨ok_22 f12, ?_⟩
  refine List.forall_mem_cons.mpr ⟨ok_4 f13 f14 f15 f16 f17, ?_⟩
  refine List.forall_mem_cons.mpr ⟨ok_25 f14, ?_⟩
  refine List.forall_mem_cons.mpr ⟨ok_25 f15, ?_⟩
  refine List.forall_mem_cons.mpr ⟨ok_25 f16, ?_⟩
  refine List.forall_mem_cons.mpr ⟨ok_25 f17, ?_⟩
  refine List.forall_mem_cons.mpr ⟨ok_2 f18 f19 f20, ?_⟩
  refine List.forall_mem_cons.mpr ⟨ok_21 f19, ?_⟩
  refine List.forall_mem_cons.mpr ⟨ok_22 f20, ?_⟩
  refine List.forall_mem_cons.mpr ⟨ok_4 f21 f22 f23 f24 f25, ?_⟩
  refine List.forall_mem_cons.mpr ⟨ok_25 f22, ?_⟩
  refine List.forall_mem_cons.mpr ⟨ok_25 f23, ?_⟩
  refine List.forall_mem_cons.mpr ⟨ok_25 f24, ?_⟩
  refine List.forall_mem_cons.mpr ⟨ok_25 f25, ?_⟩
  refine List.forall_mem_cons.mpr ⟨ok_2 f26 f27 f28, ?_⟩
  refine List.forall_mem_cons.mpr ⟨ok_21 f27, ?_⟩
  refine List.forall_mem_cons.mpr ⟨ok_22 f28, ?_⟩
  refine List.forall_mem_cons.mpr ⟨ok_4 f29 f30 f31 f32 f33, ?_⟩
  refine List.forall_mem_cons.mpr ⟨ok_25 f30, ?_⟩
  refine List.forall_mem_cons.mpr ⟨ok_25 f31, ?_⟩
  refine List.forall_mem_cons.mpr ⟨ok_25 f32, ?_⟩
  refine List.forall_mem_cons.mpr ⟨ok_25 f33, ?_⟩
  refine List.forall_mem_cons.mpr ⟨ok_2 f34 f35 f36, ?_⟩
  refine List.forall_mem_cons.mpr ⟨ok_21 f35, ?_⟩
  refine List.forall_mem_cons.mpr ⟨ok_22 f36, ?_⟩
  refine List.forall_mem_cons.mpr ⟨ok_4 f37 f38 f39 f40 f41, ?_⟩
  refine List.forall_mem_cons.mpr ⟨ok_25 f38, ?_⟩
  refine List.forall_mem_cons.mpr ⟨ok_25 f39, ?_⟩
  refine List.forall_mem_cons.mpr ⟨ok_25 f40, ?_⟩
  refine List.forall_mem_cons.mpr ⟨ok_25 f41, ?_⟩
  refine List.forall_mem_cons.mpr ⟨ok_2 f42 f43 f44, ?_⟩
  refine List.forall_mem_cons.mpr ⟨ok_21 f43, ?_⟩
  refine List.forall_mem_cons.mpr ⟨ok_22 f44, ?_⟩
  refine List.forall_mem_cons.mpr ⟨ok_4 f45 f46 f47 f48 f49, ?_⟩
  refine List.forall_mem_cons.mpr ⟨ok_25 f46, ?_⟩
  refine List.forall_mem_cons.mpr ⟨ok_25 f47, ?_⟩
  refine List.forall_mem_cons.mpr ⟨ok_25 f48, ?_⟩
  refine List.forall_mem_cons.mpr ⟨ok_25 f49, ?_⟩
  refine List.forall_mem_cons.mpr ⟨ok_2 f50 f51 f52, ?_⟩
  refine List.forall_mem_cons.mpr ⟨ok_21 f51, ?_⟩
  refine List.forall_mem_cons.mpr ⟨ok_22 f52, ?_⟩
  refine List.forall_mem_cons.mpr ⟨ok_4 f53 f54 f55 f56 f57, ?_⟩
  refine List.forall_mem_cons.mpr ⟨ok_25 f54, ?_⟩
  refine List.forall_mem_cons.mpr ⟨ok_25 f55, ?_⟩
  refine List.forall_mem_cons.mpr ⟨ok_25 f56, ?_⟩
  refine List.forall_mem_cons.mpr ⟨ok_25 f57, ?_⟩
  refine List.forall_mem_cons.mpr ⟨ok_2 f58 f59 f60, ?_⟩
  refine List.forall_mem_cons.mpr ⟨ok_21 f59, ?_⟩
  refine List.forall_mem_cons.mpr ⟨ok_22 f60, ?_⟩
  refine List.forall_mem_cons.mpr ⟨ok_4 f61 f62 f63 f64 f65, ?_⟩
  refine List.forall_mem_cons.mpr ⟨ok_25 f62, ?_⟩
  refine List.forall_mem_cons.mpr ⟨ok_25 f63, ?_⟩
  refine List.forall_mem_cons.mpr ⟨ok_25 f64, ?_⟩
  refine List.forall_mem_cons.mpr ⟨ok_25 f65, ?_⟩
  refine List.forall_mem_cons.mpr ⟨ok_2 f66 f67 f68, ?_⟩
  refine List.forall_mem_cons.mpr ⟨ok_21 f67, ?_⟩
  refine List.forall_mem_cons.mpr ⟨ok_22 f68, ?_⟩
  refine List.forall_mem_cons.mpr ⟨ok_4 f69 f70 f71 f72 f73, ?_⟩
  refine List.forall_mem_cons.mpr ⟨ok_25 f70, ?_⟩
  refine List.forall_mem_cons.mpr ⟨ok_25 f71, ?_⟩
  refine List.forall_mem_cons.mpr ⟨ok_25 f72, ?_⟩
  refine List.forall_mem_cons.mpr ⟨ok_25 f73, ?_⟩
  refine List.forall_mem_cons.mpr ⟨ok_2 f74 f75 f76, ?_⟩
  refine List.forall_mem_cons.mpr ⟨ok_21 f75, ?_⟩
  refine List.forall_mem_cons.mpr ⟨ok_22 f76, ?_⟩
  refine List.forall_mem_cons.mpr ⟨ok_4 f77 f78 f79 f80 f81, ?_⟩
  refine List.forall_mem_cons.mpr ⟨ok_25 f78, ?_⟩
  refine List.forall_mem_cons.mpr ⟨ok_25 f79, ?_⟩
  refine List.forall_mem_cons.mpr ⟨ok_25 f80, ?_⟩
  refine List.forall_mem_cons.mpr ⟨ok_25 f81, ?_⟩
  refine List.forall_mem_cons.mpr ⟨ok_2 f82 f83 f84, ?_⟩
  refine List.forall_mem_cons.mpr ⟨ok_21 f83, ?_⟩
  refine List.forall_mem_cons.mpr ⟨ok_22 f84, ?_⟩
  refine List.forall_mem_cons.mpr ⟨ok_4 f85 f86 f87 f88 f89, ?_⟩
  refine List.forall_mem_cons.mpr ⟨ok_25 f86, ?_⟩
  refine List.forall_mem_cons.mpr ⟨ok_25 f87, ?_⟩
  refine List.forall_mem_cons.mpr ⟨ok_25 f88, ?_⟩
  refine List.forall_mem_cons.mpr ⟨ok_25 f89, ?_⟩
  refine List.forall_mem_cons.mpr ⟨ok_2 f90 f91 f92, ?_⟩
  refine List.forall_mem_cons.mpr ⟨ok_21 f91, ?_⟩
  refine List.forall_mem_cons.mpr ⟨ok_22 f92, ?_⟩
  refine List.forall_mem_cons.mpr ⟨ok_4 f93 f94 f95 f96 f97, ?_⟩
  refine List.forall_mem_cons.mpr ⟨ok_25 f94, ?_⟩
  refine List.forall_mem_cons.mpr ⟨ok_25 f95, ?_⟩
  refine List.forall_mem_cons.mpr ⟨ok_25 f96, ?_⟩
  refine List.forall_mem_cons.mpr ⟨ok_25 f97, ?_⟩
  refine List.forall_mem_cons.mpr ⟨ok_2 f98 f99 f100, ?_⟩
  refine List.forall_mem_cons.mpr ⟨ok_21 f99, ?_⟩
  refine List.forall_mem_cons.mpr ⟨ok_22 f100, ?_⟩
  refine List.forall_mem_cons.mpr ⟨ok_4 f101 f102 f103 f104 f105, ?_⟩
  refine List.forall_mem_cons.mpr ⟨ok_25 f102, ?_⟩
  refine List.forall_mem_cons.mpr ⟨ok_25 f103, ?_⟩
  refine List.forall_mem_cons.mpr ⟨ok_25 f104, ?_⟩
  refine List.forall_mem_cons.mpr ⟨ok_25 f105, ?_⟩
  refine List.forall_mem_cons.mpr ⟨ok_2 f106 f107 f108, ?_⟩
  refine List.forall_mem_cons.mpr ⟨ok_21 f107, ?_⟩
  refine List.forall_mem_cons.mpr ⟨ok_22 f108, ?_⟩
  refine List.forall_mem_cons.mpr ⟨ok_4 f109 f110 f111 f112 f113, ?_⟩
  refine List.forall_mem_cons.mpr ⟨ok_25 f110, ?_⟩
  refine List.forall_mem_cons.mpr ⟨ok_25 f111, ?_⟩
  refine List.forall_mem_cons.mpr ⟨ok_25 f112, ?_⟩
  refine List.forall_mem_cons.mpr ⟨ok_25 f113, ?_⟩
  refine List.forall_mem_cons.mpr ⟨ok_2 f114 f115 f116, ?_⟩
  refine List.forall_mem_cons.mpr ⟨ok_21 f115, ?_⟩
  refine List.forall_mem_cons.mpr ⟨ok_22 f116, ?_⟩
  refine List.forall_mem_cons.mpr ⟨ok_4 f117 f118 f119 f120 f121, ?_⟩
  refine List.forall_mem_cons.mpr ⟨ok_25 f118, ?_⟩
  refine List.forall_mem_cons.mpr ⟨ok_25 f119, ?_⟩
  refine List.forall_mem_cons.mpr ⟨ok_25 f120, ?_⟩
  refine List.forall_mem_cons.mpr ⟨ok_25 f121, ?_⟩
  refine List.forall_mem_cons.mpr ⟨ok_5 f122, ?_⟩
  refine List.forall_mem_cons.mpr ⟨ok_5 f123, ?_⟩
  refine List.forall_mem_cons.mpr ⟨ok_5 f124, ?_⟩
  refine List.forall_mem_cons.mpr ⟨ok_5 f125, ?_⟩
  refine List.forall_mem_cons.mpr ⟨ok_5 f126, ?_⟩
  refine List.forall_mem_cons.mpr ⟨ok_5 f127, ?_⟩
  refine List.forall_mem_cons.mpr ⟨ok_5 f128, ?_⟩
  refine List.forall_mem_cons.mpr ⟨ok_5 f129, ?_⟩
  exact fun _ h => absurd h List.not_mem_nil
def ksL : List Nat := [0, 20, 7, 3, 23, 24, 34, 35, 4, 25, 25, 25, 25, 8, 36, 37, 37, 38, 38, 9, 39, 10, 40, 41, 42, 43, 43, 43, 43, 43, 43, 44, 45, 11, 46, 7, 3, 23, 24, 34, 7, 3, 23, 24, 34, 7, 3, 23, 24, 34]
def TLl (cy : Nat → ClassId) (h : Nat) (u : (Nat → Nat) × (Nat → Nat) × (Nat → Nat)) : va_W := [(h, .inr (11, [.ref (u.1 0), .int 0, .ref (u.1 1), .ref (u.1 2), .int 0, .int (-1), .ref (u.1 3), .ref (u.1 4), .ref (u.1 5), .ref (u.1 6), .int 0, .ref (u.1 7), .ref (u.1 8), .ref (u.1 9)])), ((u.1 0), .inl (cy 1, 1700, .inl (fun _ => 0))), ((u.1 3), .inr (7, [.ref (u.1 10), .int 0, .int 0, .ref (u.1 11), .int 0])), ((u.1 10), .inr (8, [.ref (u.1 12), .ref (u.1 13), .int 0])), ((u.1 12), .inl (cy 0, 40, .inl (fun _ => 0))), ((u.1 13), .inl (cy 0, 40, .inl (fun _ => 0))), ((u.1 11), .inl (cy 0, 8, .inl (fun _ => 0))), ((u.1 4), .inl (cy 7, 3, .inr (.inr (.inr (.inr (va_up (va_up (va_up (fun _ => none) 0 (some (u.1 14))) 1 (some (u.1 15))) 2 (some (u.1 16)))))))), ((u.1 5), .inr (2, [.ref (u.1 17), .ref (u.1 18), .ref (u.1 19), .ref (u.1 20), .int 0])), ((u.1 17), .inl (cy 0, 14, .inl (fun _ => 0))), ((u.1 18), .inl (cy 0, 14, .inl (fun _ => 0))), ((u.1 19), .inl (cy 0, 14, .inl (fun _ => 0))), ((u.1 20), .inl (cy 0, 14, .inl (fun _ => 0))), ((u.1 6), .inr (10, [.ref (u.1 21), .ref (u.1 22), .ref (u.1 23), .ref (u.1 24), .ref (u.1 25), .int 0])), ((u.1 21), .inl (cy 0, 30, .inl (fun _ => 0))), ((u.1 22), .inl (cy 2, 30, .inl (fun _ => 0))), ((u.1 23), .inl (cy 2, 30, .inl (fun _ => 0))), ((u.1 24), .inl (cy 0, 30, .inl (fun _ => 0))), ((u.1 25), .inl (cy 0, 30, .inl (fun _ => 0))), ((u.1 7), .inr (1, [.ref (u.1 26), .int 0, .int 0])), ((u.1 26), .inl (cy 0, 14, .inl (fun _ => 0))), ((u.1 8), .inr (3, [.ref (u.1 27), .ref (u.1 28), .int 0, .ref (u.1 29), .ref (u.1 30), .ref (u.1 31), .int 0])), ((u.1 27), .inl (cy 0, 6, .inl (fun _ => 0))), ((u.1 28), .inl (cy 0, 6, .inl (fun _ => 0))), ((u.1 29), .inl (cy 8, 6, .inr (.inr (.inr (.inr (fun j => some ((u.1 29) + 1 + j))))))), (((u.1 29) + 1), .inl (cy 0, 6, .inl (fun _ => 0))), (((u.1 29) + 1 + 1), .inl (cy 0, 6, .inl (fun _ => 0))), (((u.1 29) + 1 + 2), .inl (cy 0, 6, .inl (fun _ => 0))), (((u.1 29) + 1 + 3), .inl (cy 0, 6, .inl (fun _ => 0))), (((u.1 29) + 1 + 4), .inl (cy 0, 6, .inl (fun _ => 0))), (((u.1 29) + 1 + 5), .inl (cy 0, 6, .inl (fun _ => 0))), ((u.1 30), .inl (cy 0, 6, .inl (fun _ => 0))), ((u.1 31), .inl (cy 0, 6, .inl (fun _ => 0))), ((u.1 9), .inr (0, [.ref (u.1 32), .int 0])), ((u.1 32), .inl (cy 0, 108, .inl (fun _ => 0))), ((u.1 14), .inr (7, [.ref (u.1 33), .int 0, .int 0, .ref (u.1 34), .int 0])), ((u.1 33), .inr (8, [.ref (u.1 35), .ref (u.1 36), .int 0])), ((u.1 35), .inl (cy 0, 40, .inl (fun _ => 0))), ((u.1 36), .inl (cy 0, 40, .inl (fun _ => 0))), ((u.1 34), .inl (cy 0, 8, .inl (fun _ => 0))), ((u.1 15), .inr (7, [.ref (u.1 37), .int 0, .int 0, .ref (u.1 38), .int 0])), ((u.1 37), .inr (8, [.ref (u.1 39), .ref (u.1 40), .int 0])), ((u.1 39), .inl (cy 0, 40, .inl (fun _ => 0))), ((u.1 40), .inl (cy 0, 40, .inl (fun _ => 0))), ((u.1 38), .inl (cy 0, 8, .inl (fun _ => 0))), ((u.1 16), .inr (7, [.ref (u.1 41), .int 0, .int 0, .ref (u.1 42), .int 0])), ((u.1 41), .inr (8, [.ref (u.1 43), .ref (u.1 44), .int 0])), ((u.1 43), .inl (cy 0, 40, .inl (fun _ => 0))), ((u.1 44), .inl (cy 0, 40, .inl (fun _ => 0))), ((u.1 42), .inl (cy 0, 8, .inl (fun _ => 0)))]
set_option maxHeartbeats 4000000 in
set_option maxRecDepth 100000 in
theorem lit_ok {cy : Nat → ClassId} {L : List Nat} {K : Nat → Nat} {h : Nat} {u : (Nat → Nat) × (Nat → Nat) × (Nat → Nat)} (hf : Fct L K (TLl cy h u) ksL) (fT1 : u.1 1 ∈ L ∧ K (u.1 1) = 1) (fT2 : u.1 2 ∈ L ∧ K (u.1 2) = 1) : ∀ c ∈ TLl cy h u, okC cy L K c.1 c.2 := by
  have f0 := hf 0 _ _ _ rfl rfl
  have f1 := hf 1 _ _ _ rfl rfl
  have f2 := hf 2 _ _ _ rfl rfl
  have f3 := hf 3 _ _ _ rfl rfl
  have f4 := hf 4 _ _ _ rfl rfl
  have f5 := hf 5 _ _ _ rfl rfl
  have f6 := hf 6 _ _ _ rfl rfl
  have f7 := hf 7 _ _ _ rfl rfl
  have f8 := hf 8 _ _ _ rfl rfl
  have f9 := hf 9 _ _ _ rfl rfl
  have f10 := hf 10 _ _ _ rfl rfl
  have f11 := hf 11 _ _ _ rfl rfl
  have f12 := hf 12 _ _ _ rfl rfl
  have f13 := hf 13 _ _ _ rfl rfl
  have f14 := hf 14 _ _ _ rfl rfl
  have f15 := hf 15 _ _ _ rfl rfl
  have f16 := hf 16 _ _ _ rfl rfl
  have f17 := hf 17 _ _ _ rfl rfl
  have f18 := hf 18 _ _ _ rfl rfl
  have f19 := hf 19 _ _ _ rfl rfl
  have f20 := hf 20 _ _ _ rfl rfl
  have f21 := hf 21 _ _ _ rfl rfl
  have f22 := hf 22 _ _ _ rfl rfl
  have f23 := hf 23 _ _ _ rfl rfl
  have f24 := hf 24 _ _ _ rfl rfl
  have f25 := hf 25 _ _ _ rfl rfl
  have f26 := hf 26 _ _ _ rfl rfl
  have f27 := hf 27 _ _ _ rfl rfl
  have f28 := hf 28 _ _ _ rfl rfl
  have f29 := hf 29 _ _ _ rfl rfl
  have f30 := hf 30 _ _ _ rfl rfl
  have f31 := hf 31 _ _ _ rfl rfl
  have f32 := hf 32 _ _ _ rfl rfl
  have f33 := hf 33 _ _ _ rfl rfl
  have f34 := hf 34 _ _ _ rfl rfl
  have f35 := hf 35 _ _ _ rfl rfl
  have f36 := hf 36 _ _ _ rfl rfl
  have f37 := hf 37 _ _ _ rfl rfl
  have f38 := hf 38 _ _ _ rfl rfl
  have f39 := hf 39 _ _ _ rfl rfl
  have f40 := hf 40 _ _ _ rfl rfl
  have f41 := hf 41 _ _ _ rfl rfl
  have f42 := hf 42 _ _ _ rfl rfl
  have f43 := hf 43 _ _ _ rfl rfl
  have f44 := hf 44 _ _ _ rfl rfl
  have f45 := hf 45 _ _ _ rfl rfl
  have f46 := hf 46 _ _ _ rfl rfl
  have f47 := hf 47 _ _ _ rfl rfl
  have f48 := hf 48 _ _ _ rfl rfl
  have f49 := hf 49 _ _ _ rfl rfl
  have g7 := ok_35 (cy := cy) (f := (va_up (va_up (va_up (fun _ => none) 0 (some (u.1 14))) 1 (some (u.1 15))) 2 (some (u.1 16)))) (r := (lst [(u.1 14), (u.1 15), (u.1 16)])) f7 (fun j hj => by
    rcases (show j = 0 ∨ j = 1 ∨ j = 2 by omega) with rfl | rfl | rfl
    · exact ⟨rfl, f35⟩
    · exact ⟨rfl, f40⟩
    · exact ⟨rfl, f45⟩)
  have g24 := ok_42 (cy := cy) (f := (fun j => some ((u.1 29) + 1 + j))) (r := (fun j => (u.1 29) + 1 + j)) f24 (fun j hj => by
    rcases (show j = 0 ∨ j = 1 ∨ j = 2 ∨ j = 3 ∨ j = 4 ∨ j = 5 by omega) with rfl | rfl | rfl | rfl | rfl | rfl
    · exact ⟨rfl, f25⟩
    · exact ⟨rfl, f26⟩
    · exact ⟨rfl, f27⟩
    · exact ⟨rfl, f28⟩
    · exact ⟨rfl, f29⟩
    · exact ⟨rfl, f30⟩)
  unfold TLl
  refine List.forall_mem_cons.mpr ⟨ok_0 f0 f1 fT1 fT2 f2 f7 f8 f13 f19 f21 f33, ?_⟩
  refine List.forall_mem_cons.mpr ⟨ok_20 f1, ?_⟩
  refine List.forall_mem_cons.mpr ⟨ok_7 f2 f3 f6, ?_⟩
  refine List.forall_mem_cons.mpr ⟨ok_3 f3 f4 f5, ?_⟩
  refine List.forall_mem_cons.mpr ⟨ok_23 f4, ?_⟩
  refine List.forall_mem_cons.mpr ⟨ok_24 f5, ?_⟩
  refine List.forall_mem_cons.mpr ⟨ok_34 f6, ?_⟩
  refine List.forall_mem_cons.mpr ⟨g7, ?_⟩
  refine List.forall_mem_cons.mpr ⟨ok_4 f8 f9 f10 f11 f12, ?_⟩
  refine List.forall_mem_cons.mpr ⟨ok_25 f9, ?_⟩
  refine List.forall_mem_cons.mpr ⟨ok_25 f10, ?_⟩
  refine List.forall_mem_cons.mpr ⟨ok_25 f11, ?_⟩
  refine List.forall_mem_cons.mpr ⟨ok_25 f12, ?_⟩
  refine List.forall_mem_cons.mpr ⟨ok_8 f13 f14 f15 f16 f17 f18, ?_⟩
  refine List.forall_mem_cons.mpr ⟨ok_36 f14, ?_⟩
  refine List.forall_mem_cons.mpr ⟨ok_37 f15, ?_⟩
  refine List.forall_mem_cons.mpr ⟨ok_37 f16, ?_⟩
  refine List.forall_mem_cons.mpr ⟨ok_38 f17, ?_⟩
  refine List.forall_mem_cons.mpr ⟨ok_38 f18, ?_⟩
  refine List.forall_mem_cons.mpr ⟨ok_9 f19 f20, ?_⟩
  refine List.forall_mem_cons.mpr ⟨ok_39 f20, ?_⟩
  refine List.forall_mem_cons.mpr ⟨ok_10 f21 f22 f23 f24 f31 f32, ?_⟩
  refine List.forall_mem_cons.mpr ⟨ok_40 f22, ?_⟩
  refine List.forall_mem_cons.mpr ⟨ok_41 f23, ?_⟩
  refine List.forall_mem_cons.mpr ⟨g24, ?_⟩
  refine List.forall_mem_cons.mpr ⟨ok_43 f25, ?_⟩
  refine List.forall_mem_cons.mpr ⟨ok_43 f26, ?_⟩
  refine List.forall_mem_cons.mpr ⟨ok_43 f27, ?_⟩
  refine List.forall_mem_cons.mpr ⟨ok_43 f28, ?_⟩
  refine List.forall_mem_cons.mpr ⟨ok_43 f29, ?_⟩
  refine List.forall_mem_cons.mpr ⟨ok_43 f30, ?_⟩
  refine List.forall_mem_cons.mpr ⟨ok_44 f31, ?_⟩
  refine List.forall_mem_cons.mpr ⟨ok_45 f32, ?_⟩
  refine List.forall_mem_cons.mpr ⟨ok_11 f33 f34, ?_⟩
  refine List.forall_mem_cons.mpr ⟨ok_46 f34, ?_⟩
  refine List.forall_mem_cons.mpr ⟨ok_7 f35 f36 f39, ?_⟩
  refine List.forall_mem_cons.mpr ⟨ok_3 f36 f37 f38, ?_⟩
  refine List.forall_mem_cons.mpr ⟨ok_23 f37, ?_⟩
  refine List.forall_mem_cons.mpr ⟨ok_24 f38, ?_⟩
  refine List.forall_mem_cons.mpr ⟨ok_34 f39, ?_⟩
  refine List.forall_mem_cons.mpr ⟨ok_7 f40 f41 f44, ?_⟩
  refine List.forall_mem_cons.mpr ⟨ok_3 f41 f42 f43, ?_⟩
  refine List.forall_mem_cons.mpr ⟨ok_23 f42, ?_⟩
  refine List.forall_mem_cons.mpr ⟨ok_24 f43, ?_⟩
  refine List.forall_mem_cons.mpr ⟨ok_34 f44, ?_⟩
  refine List.forall_mem_cons.mpr ⟨ok_7 f45 f46 f49, ?_⟩
  refine List.forall_mem_cons.mpr ⟨ok_3 f46 f47 f48, ?_⟩
  refine List.forall_mem_cons.mpr ⟨ok_23 f47, ?_⟩
  refine List.forall_mem_cons.mpr ⟨ok_24 f48, ?_⟩
  refine List.forall_mem_cons.mpr ⟨ok_34 f49, ?_⟩
  exact fun _ h => absurd h List.not_mem_nil
theorem ks_0 : ∀ k : Nat, (ksL ++ (ksT ++ ksT))[k]? = some 0 → k = 0 := by
  intro k hk
  cases k with
  | zero => rfl
  | succ k =>
    have h2 : ((ksL ++ (ksT ++ ksT)).tail).all (fun x => x != 0) = true := by decide +kernel
    have h3 : ((ksL ++ (ksT ++ ksT)).tail)[k]? = some 0 := by rw [List.getElem?_tail]; exact hk
    have h4 := List.all_eq_true.mp h2 0 (List.mem_of_getElem? h3)
    exact absurd h4 (by decide)
set_option maxRecDepth 100000 in
theorem TL_pool {G : va_G} {A : Nat → Prop} {cy : Nat → ClassId} {h : Nat} {u : (Nat → Nat) × (Nat → Nat) × (Nat → Nat)} {H : Heap} (hP : va_P G vwCl (TLW cy h u) H) (hD : va_D A (TLW cy h u)) : ∃ (L : List Nat) (K : Nat → Nat) (R : Nat → Nat → Nat) (I : Nat → Nat → Int32) (J : Nat → Nat → Int64) (E : Nat → Nat → Int32) (B : Nat → Nat → Int64), va_P G vwCl (WC cy L K R I J E B) H ∧ va_D A (WC cy L K R I J E B) ∧ RT L K R ∧ IV 0 L K I ∧ EV L K E ∧ h ∈ L ∧ K h = 0 ∧ ∀ z, K z = 0 → z = h := by
  have hf := Fct.all (ks := ksL ++ (ksT ++ ksT)) hD
  have hk0 := fun z => kOf_0 ((TLW cy h u).map Prod.fst) (ksL ++ (ksT ++ ksT)) z
  generalize kOf ((TLW cy h u).map Prod.fst) (ksL ++ (ksT ++ ksT)) = K at hf hk0
  have hh : ((TLW cy h u).map Prod.fst)[0]? = some h := rfl
  generalize hLe : ((TLW cy h u).map Prod.fst) = L at hf hk0 hh
  have hf : Fct L K (TLl cy h u ++ (TWn cy (u.1 1) u.2.1 ++ TWn cy (u.1 2) u.2.2)) (ksL ++ (ksT ++ ksT)) := hf
  have hfl := hf.left
  have hfr := hf.right rfl
  have hf1 := hfr.left
  have hf2 := hfr.right rfl
  have e1 := hf1 0 _ _ _ rfl rfl
  have e2 := hf2 0 _ _ _ rfl rfl
  have e0 := hfl 0 _ _ _ rfl rfl
  obtain ⟨R, I, J, E, B, q1, q2, q3, q4, q5⟩ := pool_of (cy := cy) (K := K) hLe.symm hP hD (show ∀ c ∈ TLl cy h u ++ (TWn cy (u.1 1) u.2.1 ++ TWn cy (u.1 2) u.2.2), okC cy L K c.1 c.2 from List.forall_mem_append.mpr ⟨lit_ok hfl e1 e2, List.forall_mem_append.mpr ⟨town_ok hf1, town_ok hf2⟩⟩)
  refine ⟨L, K, R, I, J, E, B, q1, q2, q3, q4, q5, e0.1, e0.2, fun z hz => ?_⟩
  obtain ⟨k, h1, h2⟩ := hk0 z hz
  have h3 := ks_0 k h2
  subst h3
  exact Option.some.inj (h1.symm.trans hh)
