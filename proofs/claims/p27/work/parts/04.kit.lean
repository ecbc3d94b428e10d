
/-! own rows: the array classes, the nest mates' words, entry and end of a method, frames of calls -/
def TY (cy : Nat → ClassId) : List (ClassId × FieldType) := [(cy 0, .int), (cy 1, .byte), (cy 2, .boolean), (cy 3, .long), (cy 4, .object "TuneLocks$Song"), (cy 5, .object "TuneLocks$Hearing"), (cy 6, .object "TuneLocks$Lock"), (cy 7, .object "TuneLocks$Scene")]
def nst : List Cond := [.fieldLinkNest RX11 104 "TuneLocks$Scene" "voice" "LTuneLocks$Song;" "TuneLocks",
  .fieldLinkNest RX11 113 "TuneLocks$Town" "lockCount" "I" "TuneLocks",
  .fieldLinkNest RX11 120 "TuneLocks$Town" "tunes" "[LTuneLocks$Song;" "TuneLocks",
  .fieldLinkNest RX11 124 "TuneLocks$Song" "count" "I" "TuneLocks",
  .fieldLinkNest RX11 138 "TuneLocks$Town" "hearings" "[LTuneLocks$Hearing;" "TuneLocks",
  .fieldLinkNest RX11 146 "TuneLocks$Hearing" "place" "[I" "TuneLocks",
  .fieldLinkNest RX11 150 "TuneLocks$Hearing" "least" "[I" "TuneLocks",
  .fieldLinkNest RX11 156 "TuneLocks$Scene" "worn" "[I" "TuneLocks",
  .fieldLinkNest RX11 170 "TuneLocks$Town" "tuneCount" "I" "TuneLocks",
  .fieldLinkNest RX11 197 "TuneLocks$Town" "sweet" "[Z" "TuneLocks",
  .fieldLinkNest RX11 227 "TuneLocks$Scene" "open" "I" "TuneLocks",
  .fieldLinkNest RX11 230 "TuneLocks$Scene" "atNight" "Z" "TuneLocks",
  .fieldLinkNest RX11 234 "TuneLocks$Song" "high" "[I" "TuneLocks",
  .fieldLinkNest RX11 237 "TuneLocks$Song" "length" "[I" "TuneLocks",
  .fieldLinkNest RX11 240 "TuneLocks$Town" "locks" "[LTuneLocks$Lock;" "TuneLocks",
  .fieldLinkNest RX11 278 "TuneLocks$Scene" "kept" "Z" "TuneLocks",
  .fieldLinkNest RX11 281 "TuneLocks$Watches" "count" "I" "TuneLocks",
  .fieldLinkNest RX11 282 "TuneLocks$Town" "units" "I" "TuneLocks",
  .fieldLinkNest RX11 89 "TuneLocks$Reader" "fault" "I" "TuneLocks",
  .fieldLinkNest RX11 95 "TuneLocks$Reader" "faultPlace" "I" "TuneLocks",
  .fieldLinkNest RX0 19 "TuneLocks$Song" "count" "I" "TuneLocks",
  .fieldLinkNest RX0 22 "TuneLocks$Song" "length" "[I" "TuneLocks",
  .fieldLinkNest RX0 25 "TuneLocks$Song" "high" "[I" "TuneLocks",
  .fieldLinkNest RX1 15 "TuneLocks$Town" "tuneCount" "I" "TuneLocks",
  .fieldLinkNest RX2 24 "TuneLocks$Song" "count" "I" "TuneLocks",
  .fieldLinkNest RX2 33 "TuneLocks$Town" "tuneCount" "I" "TuneLocks",
  .fieldLinkNest RX2 38 "TuneLocks$Town" "tunes" "[LTuneLocks$Song;" "TuneLocks",
  .fieldLinkNest RX3 36 "TuneLocks$Town" "tuneCount" "I" "TuneLocks",
  .fieldLinkNest RX3 45 "TuneLocks$Town" "tunes" "[LTuneLocks$Song;" "TuneLocks",
  .fieldLinkNest RX3 49 "TuneLocks$Song" "count" "I" "TuneLocks",
  .fieldLinkNest RX5 34 "TuneLocks$Lock" "from" "I" "TuneLocks",
  .fieldLinkNest RX5 37 "TuneLocks$Lock" "to" "I" "TuneLocks",
  .fieldLinkNest RX5 44 "TuneLocks$Hearing" "least" "[I" "TuneLocks",
  .fieldLinkNest RX5 53 "TuneLocks$Hearing" "atFirst" "[I" "TuneLocks",
  .fieldLinkNest RX5 56 "TuneLocks$Hearing" "atLast" "[I" "TuneLocks",
  .fieldLinkNest RX5 59 "TuneLocks$Hearing" "notes" "I" "TuneLocks",
  .fieldLinkNest RX6 109 "TuneLocks$Town" "lockCount" "I" "TuneLocks",
  .fieldLinkNest RX6 116 "TuneLocks$Town" "locks" "[LTuneLocks$Lock;" "TuneLocks",
  .fieldLinkNest RX6 120 "TuneLocks$Lock" "name" "J" "TuneLocks",
  .fieldLinkNest RX6 125 "TuneLocks$Lock" "near" "I" "TuneLocks",
  .fieldLinkNest RX6 128 "TuneLocks$Town" "questions" "LTuneLocks$Questions;" "TuneLocks",
  .fieldLinkNest RX6 132 "TuneLocks$Questions" "count" "I" "TuneLocks",
  .fieldLinkNest RX6 135 "TuneLocks$Lock" "from" "I" "TuneLocks",
  .fieldLinkNest RX6 141 "TuneLocks$Lock" "to" "I" "TuneLocks",
  .fieldLinkNest RX6 144 "TuneLocks$Town" "sweet" "[Z" "TuneLocks",
  .fieldLinkNest RX6 167 "TuneLocks$Town" "units" "I" "TuneLocks",
  .fieldLinkNest RX6 63 "TuneLocks$Town" "tuneCount" "I" "TuneLocks",
  .fieldLinkNest RX6 78 "TuneLocks$Town" "tuneNames" "[J" "TuneLocks",
  .fieldLinkNest RX6 85 "TuneLocks$Town" "tunes" "[LTuneLocks$Song;" "TuneLocks",
  .fieldLinkNest RX6 93 "TuneLocks$Song" "count" "I" "TuneLocks",
  .fieldLinkNest RX7 24 "TuneLocks$Song" "count" "I" "TuneLocks",
  .fieldLinkNest RX9 103 "TuneLocks$Hearing" "least" "[I" "TuneLocks",
  .fieldLinkNest RX9 59 "TuneLocks$Questions" "count" "I" "TuneLocks",
  .fieldLinkNest RX9 66 "TuneLocks$Lock" "name" "J" "TuneLocks",
  .fieldLinkNest RX9 78 "TuneLocks$Lock" "toldByDay" "I" "TuneLocks",
  .fieldLinkNest RX9 81 "TuneLocks$Lock" "toldAtNight" "I" "TuneLocks",
  .fieldLinkNest RX9 92 "TuneLocks$Hearing" "notes" "I" "TuneLocks",
  .fieldLinkNest RX10 32 "TuneLocks$Town" "tuneCount" "I" "TuneLocks",
  .fieldLinkNest RX10 45 "TuneLocks$Town" "locks" "[LTuneLocks$Lock;" "TuneLocks",
  .methodLinkNest RX11 29 yX7_init "TuneLocks",
  .methodLinkNest RX11 40 yX2_init "TuneLocks",
  .methodLinkNest RX11 47 yX10_init "TuneLocks",
  .methodLinkNest RX11 54 yX1_init "TuneLocks",
  .methodLinkNest RX11 61 yX3_init "TuneLocks",
  .methodLinkNest RX11 68 yX0_init "TuneLocks",
  .methodLinkNest RX9 35 yX5_init "TuneLocks",
  .methodLinkNest RX9 47 yX2_init "TuneLocks",
  .methodLinkNest RX9 48 yX4_init "TuneLocks"]
def isNst : Cond → Bool
  | .fieldLinkNest .. => true
  | .methodLinkNest .. => true
  | _ => false
theorem nst_all : nst.all isNst = true := by decide +kernel
theorem nst_tab : ∀ w ∈ nst, w.onTables = true := by decide +kernel
theorem df0 : ∀ j, j < 2 → defaultValue (tyX0 j) = vp_V [.null, .int 0] j := by decide +kernel
theorem df1 : ∀ j, j < 3 → defaultValue (tyX1 j) = vp_V [.null, .int 0, .int 0] j := by decide +kernel
theorem df2 : ∀ j, j < 5 → defaultValue (tyX2 j) = vp_V [.null, .null, .null, .null, .int 0] j := by decide +kernel
theorem df3 : ∀ j, j < 7 → defaultValue (tyX3 j) = vp_V [.null, .null, .int 0, .null, .null, .null, .int 0] j := by decide +kernel
theorem df4 : ∀ j, j < 6 → defaultValue (tyX4 j) = vp_V [.long 0, .int 0, .int 0, .int 0, .int 0, .int 0] j := by decide +kernel
theorem df5 : ∀ j, j < 5 → defaultValue (tyX5 j) = vp_V [.null, .null, .int 0, .null, .int 0] j := by decide +kernel
theorem df6 : ∀ j, j < 11 → defaultValue (tyX6 j) = vp_V [.null, .int 0, .null, .int 0, .int 0, .int 0, .int 0, .long 0, .int 0, .int 0, .int 0] j := by decide +kernel
theorem df7 : ∀ j, j < 5 → defaultValue (tyX7 j) = vp_V [.null, .int 0, .int 0, .null, .int 0] j := by decide +kernel
theorem df8 : ∀ j, j < 3 → defaultValue (tyX8 j) = vp_V [.null, .null, .int 0] j := by decide +kernel
theorem df9 : ∀ j, j < 9 → defaultValue (tyX9 j) = vp_V [.null, .null, .null, .int 0, .null, .int 0, .null, .int 0, .null] j := by decide +kernel
theorem df10 : ∀ j, j < 6 → defaultValue (tyX10 j) = vp_V [.null, .null, .null, .null, .null, .int 0] j := by decide +kernel
theorem df11 : ∀ j, j < 14 → defaultValue (tyX11 j) = vp_V [.null, .int 0, .null, .null, .int 0, .int 0, .null, .null, .null, .null, .int 0, .null, .null, .null] j := by decide +kernel
theorem df12 : ∀ j, j < 58 → defaultValue (tyX12 j) = vp_V [.null, .null, .int 0, .int 0, .int 0, .int 0, .int 0, .int 0, .int 0, .int 0, .long 0, .null, .null, .null, .null, .null, .null, .null, .null, .null, .null, .null, .null, .null, .null, .null, .null, .null, .null, .int 0, .int 0, .int 0, .int 0, .int 0, .int 0, .null, .null, .int 0, .null, .null, .null, .null, .null, .int 0, .int 0, .null, .null, .null, .null, .null, .int 0, .int 0, .null, .null, .null, .null, .null, .null] j := by decide +kernel
def AOI (U : State) : Prop := (Cond.arrayOver (.array .int)).before #[] U = true
theorem AOI.moved {u U : State} (hvm : u.vm.Alike U.vm) (h : AOI u) : AOI U := by
  obtain ⟨comp, c, k, h1, h2, h3, h4, h5⟩ := Jvm.Stand.arrayOver_specB h
  obtain ⟨k', hk', he⟩ := hvm.2.2 _ _ h3
  have hi : (U.vm.classes.findIdx? fun (x : Class) => match x.kind with | .array component _ => component == comp | _ => false) = some c := by
    refine (va_idx_bare U.vm comp).symm.trans ?_
    first | rw [hvm.bare_eq] | rw [← hvm.bare_eq]
    exact (va_idx_bare u.vm comp).trans h2
  have hkind : k'.kind = .array comp (.array .int) := by rw [he]; exact h4
  have f1 : U.vm.findClass (FieldType.array .int).toString = some comp := by rw [hvm.findClass]; exact h1
  have f2 : U.vm.findClass ("[" ++ (FieldType.array .int).toString) = some c := by rw [hvm.findClass]; exact h5
  unfold AOI Cond.before Cond.holds
  simp only [Cond.value]
  rw [f1, Option.bind_some]
  refine (congrArg (fun o : Option Nat => (o.bind (fun c => (U.vm.classes[c]?).map fun (k : Class) => match k.kind with | .array _ ty => decide (ty = FieldType.array .int) && decide (U.vm.findClass ("[" ++ (FieldType.array .int).toString) = some c) | _ => false) == some true)) hi).trans ?_
  simp [hk', hkind, f2]
def NK (U : State) : Prop := (∀ w ∈ nst, va_Nw w U) ∧ va_AO "TuneLocks$Song" U ∧ va_AO "TuneLocks$Hearing" U ∧ va_AO "TuneLocks$Lock" U ∧ va_AO "TuneLocks$Scene" U ∧ AOI U
theorem NK.warm {s U : State} (hW : s.WarmedH U.vm) (h : NK s) : NK U := by
  refine ⟨?_, va_AO.moved hW.alike h.2.1, va_AO.moved hW.alike h.2.2.1, va_AO.moved hW.alike h.2.2.2.1, va_AO.moved hW.alike h.2.2.2.2.1, AOI.moved hW.alike h.2.2.2.2.2⟩
  intro w hw
  have h1 := h.1 w hw
  have h2 : isNst w = true := List.all_eq_true.mp nst_all w hw
  match w, h2, h1 with
  | .fieldLinkNest .., _, h1 => exact va_Nw.warmF hW h1
  | .methodLinkNest .., _, h1 => exact va_Nw.warmM hW h1
theorem NK.same {u U : State} (hv : u.vm = U.vm) (h : NK u) : NK U := by
  have ha : u.vm.Alike U.vm := by rw [hv]; exact Vm.Alike.refl _
  exact ⟨fun w hw => va_Nw.same (nst_tab w hw) hv (h.1 w hw), va_AO.moved ha h.2.1, va_AO.moved ha h.2.2.1, va_AO.moved ha h.2.2.2.1, va_AO.moved ha h.2.2.2.2.1, AOI.moved ha h.2.2.2.2.2⟩
def En (G : va_G) (cy : Nat → ClassId) (ws : va_W) (sz : Nat) (U : State) : Prop := U.heap.size = sz ∧ va_P G vwCl ws U.heap ∧ va_K G vwCl (TY cy) U ∧ va_D (fun _ => True) ws ∧ NK U
def Ex (G : va_G) (A : Nat → Prop) (ws : va_W) (t : State) : Prop := va_P G vwCl ws t.heap ∧ va_D A ws
theorem En.blind {G : va_G} {cy : Nat → ClassId} {ws : va_W} {sz : Nat} {av : List Value} : FrameBlind (va_Pc av (En G cy ws sz)) := fun a U g mk q => by
  obtain ⟨q0, q1, q2, q3, q4, q5⟩ := q
  exact ⟨q0, q1, q2, va_K.moved (u := U) (U := U.calling g mk a) (Vm.Alike.refl U.vm) q3, q4, NK.same (u := U) (U := U.calling g mk a) rfl q5⟩
theorem En.of {G : va_G} {cy : Nat → ClassId} {ws : va_W} {H : Heap} {A : Nat → Prop} {s U : State} (hU : U.heap = H) (hW : s.WarmedH U.vm) (hP : va_P G vwCl ws H) (hK : va_K G vwCl (TY cy) s) (hD : va_D A ws) (hN : NK s) : En G cy ws H.size U :=
  ⟨by rw [hU], by rw [hU]; exact hP, va_K.moved hW.alike hK, hD.weaken (fun _ _ _ _ => trivial), NK.warm hW hN⟩
/-- a call that writes nothing old: all stays -/
theorem fr_keep {G : va_G} {cl : List vw_C} {ws : va_W} {H H1 : Heap} (hP : va_P G cl ws H) (hk : ∀ q : Nat, q < H.size → ¬ va_A [] H.size q → H1[q]? = H[q]?) : va_P G cl ws H1 :=
  hP.kept (fun k x hx => hk x.1 ((hP k x hx).lt) (fun h => by
    rcases h with ⟨k9, e9, h9⟩ | h
    · simp at h9
    · exact absurd ((hP k x hx).lt) (Nat.not_lt.mpr h)))
theorem fr_new {A : Nat → Prop} {H0 H : Heap} {locs : List Loc} (hS : va_S A H0 H locs) (hA : ∀ q, H0.size ≤ q → A q) : ∀ q, va_A [] H.size q → A q := fun q h => by
  rcases h with ⟨k9, e9, h9⟩ | h
  · simp at h9
  · exact hA q (Nat.le_trans hS.1 h)
/-- cells laid back at their places -/
def pu : va_W → List Nat → va_W → va_W
  | ws, i :: is, x :: xs => pu (ws.set i x) is xs
  | ws, _, _ => ws
theorem pu_get : ∀ (is : List Nat) (xs ws : va_W) (j : Nat), (pu ws is xs)[j]? = ws[j]? ∨ ∃ t : Nat, is[t]? = some j ∧ ∃ x, xs[t]? = some x ∧ (pu ws is xs)[j]? = some x := by
  intro is
  induction is with
  | nil => intro xs ws j; left; simp [pu]
  | cons i is ih =>
    intro xs ws j
    cases xs with
    | nil => left; simp [pu]
    | cons x xs =>
      rcases ih xs (ws.set i x) j with h | ⟨t, h1, y, h2, h3⟩
      · show (pu (ws.set i x) is xs)[j]? = _ ∨ _
        rw [List.getElem?_set] at h
        by_cases e : i = j
        · subst e
          rw [if_pos rfl] at h
          by_cases hl : i < ws.length
          · rw [if_pos hl] at h
            right
            exact ⟨0, rfl, x, rfl, h⟩
          · left
            rw [if_neg hl] at h
            rw [List.getElem?_eq_none (Nat.le_of_not_lt hl)]
            exact h
        · left
          rw [if_neg e] at h
          exact h
      · right
        exact ⟨t + 1, h1, y, h2, h3⟩
theorem fr_put {G : va_G} {cl : List vw_C} {A : Nat → Prop} {ws wc w1 : va_W} {H H1 : Heap} (hP : va_P G cl ws H) (hD : va_D A ws) (is : List Nat) (hC : is.map (fun i => ws[i]?) = wc.map some) (hadr : w1.map Prod.fst = wc.map Prod.fst) (hcov : is.map (fun i => (pu ws is w1)[i]?) = w1.map some)
    (hk : ∀ q : Nat, q < H.size → ¬ va_A wc H.size q → H1[q]? = H[q]?) (hP1 : va_P G cl w1 H1) : va_P G cl (pu ws is w1) H1 ∧ va_D A (pu ws is w1) := by
  have hlen : is.length = wc.length := by
    have := congrArg List.length hC
    simpa using this
  have hlen1 : w1.length = wc.length := by
    have := congrArg List.length hadr
    simpa using this
  have hat : ∀ (t : Nat) (x : Nat × va_E), w1[t]? = some x → ∃ i y, is[t]? = some i ∧ wc[t]? = some y ∧ ws[i]? = some y ∧ x.1 = y.1 := by
    intro t x hx
    have ht : t < wc.length := by
      have := (List.getElem?_eq_some_iff.mp hx).1
      omega
    have hi : t < is.length := by omega
    have e1 : (is.map (fun i => ws[i]?))[t]? = (wc.map some)[t]? := by rw [hC]
    rw [List.getElem?_map, List.getElem?_map, List.getElem?_eq_getElem hi, List.getElem?_eq_getElem ht] at e1
    have e2 : (w1.map Prod.fst)[t]? = (wc.map Prod.fst)[t]? := by rw [hadr]
    rw [List.getElem?_map, List.getElem?_map, hx, List.getElem?_eq_getElem ht] at e2
    exact ⟨is[t], wc[t], List.getElem?_eq_getElem hi, List.getElem?_eq_getElem ht, by simpa using e1, by simpa using e2⟩
  have key : ∀ (j : Nat) (x : Nat × va_E), (pu ws is w1)[j]? = some x → (∃ y, ws[j]? = some y ∧ x.1 = y.1) ∧ va_at G cl x H1 := by
    intro j x hx
    by_cases hj : j ∈ is
    · obtain ⟨t, ht⟩ := List.getElem?_of_mem hj
      have htl : t < is.length := (List.getElem?_eq_some_iff.mp ht).1
      have ht1 : t < w1.length := by omega
      have e1 : (is.map (fun i => (pu ws is w1)[i]?))[t]? = (w1.map some)[t]? := by rw [hcov]
      rw [List.getElem?_map, List.getElem?_map, ht, List.getElem?_eq_getElem ht1] at e1
      have e3 : (pu ws is w1)[j]? = some w1[t] := by simpa using e1
      rw [hx] at e3
      have hw : w1[t]? = some x := by rw [List.getElem?_eq_getElem ht1]; exact e3.symm
      obtain ⟨i, y, g1, g2, g3, g4⟩ := hat t x hw
      rw [ht] at g1
      cases g1
      exact ⟨⟨y, g3, g4⟩, hP1 t x hw⟩
    · rcases pu_get is w1 ws j with h | ⟨t, h1, y, h2, h3⟩
      · rw [hx] at h
        have hw : ws[j]? = some x := h.symm
        refine ⟨⟨x, hw, rfl⟩, ?_⟩
        have hat0 := hP j x hw
        refine hat0.kept (hk x.1 hat0.lt ?_)
        intro hA
        rcases hA with ⟨k, e, he⟩ | hge
        · have hkl : k < wc.length := (List.getElem?_eq_some_iff.mp he).1
          have hki : k < is.length := by omega
          have e1 : (is.map (fun i => ws[i]?))[k]? = (wc.map some)[k]? := by rw [hC]
          rw [List.getElem?_map, List.getElem?_map, he, List.getElem?_eq_getElem hki] at e1
          have e3 : ws[is[k]]? = some (x.1, e) := by simpa using e1
          have := hD.1 (is[k]) j _ _ e3 hw rfl
          exact hj (this ▸ List.getElem_mem hki)
        · exact absurd hat0.lt (Nat.not_lt.mpr hge)
      · exact absurd (List.mem_of_getElem? h1) hj
  refine ⟨fun j x hx => (key j x hx).2, fun i j x y hi hj hxy => ?_, fun j x hx => ?_⟩
  · obtain ⟨⟨x', hx1, hx2⟩, -⟩ := key i x hi
    obtain ⟨⟨y', hy1, hy2⟩, -⟩ := key j y hj
    exact hD.1 i j x' y' hx1 hy1 (by rw [← hx2, ← hy2]; exact hxy)
  · obtain ⟨⟨x', hx1, hx2⟩, -⟩ := key j x hx
    rw [hx2]
    exact hD.2 j x' hx1
/-- the object made last is built: what it comes to lies behind the rest -/
theorem fr_last {G : va_G} {cl : List vw_C} {A : Nat → Prop} {ws w1 : va_W} {x : Nat × va_E} {H H1 : Heap} (hP : va_P G cl (ws ++ [x]) H) (hD : va_D A (ws ++ [x])) (hF : ∀ q, va_A [x] H.size q → A q)
    (hk : ∀ q : Nat, q < H.size → ¬ va_A [x] H.size q → H1[q]? = H[q]?) (hP1 : va_P G cl w1 H1) (hD1 : va_D (va_A [x] H.size) w1) : va_P G cl (ws ++ w1) H1 ∧ va_D A (ws ++ w1) := by
  have hlt : ∀ (j : Nat) (y : Nat × va_E), ws[j]? = some y → (ws ++ [x])[j]? = some y := fun j y hy => by
    rw [List.getElem?_append_left ((List.getElem?_eq_some_iff.mp hy).1)]
    exact hy
  have hxl : (ws ++ [x])[ws.length]? = some x := by simp
  have hno : ∀ (j : Nat) (y : Nat × va_E), ws[j]? = some y → ¬ va_A [x] H.size y.1 := fun j y hy hA => by
    have hyP := hP j y (hlt j y hy)
    rcases hA with ⟨k, e, he⟩ | hge
    · have hk0 : k < 1 := (List.getElem?_eq_some_iff.mp he).1
      rw [show k = 0 by omega] at he
      have hx0 : x = (y.1, e) := by simpa using he
      have := hD.1 j ws.length y x (hlt j y hy) hxl (by rw [hx0])
      have hl := (List.getElem?_eq_some_iff.mp hy).1
      omega
    · exact absurd hyP.lt (Nat.not_lt.mpr hge)
  have hPw : va_P G cl ws H1 := fun j y hy => (hP j y (hlt j y hy)).kept (hk y.1 (hP j y (hlt j y hy)).lt (hno j y hy))
  refine ⟨hPw.app hP1, fun i j p q hi hj hpq => ?_, fun j q hq => ?_⟩
  · by_cases h1 : i < ws.length <;> by_cases h2 : j < ws.length
    · rw [List.getElem?_append_left h1] at hi
      rw [List.getElem?_append_left h2] at hj
      exact hD.1 i j p q (hlt i p hi) (hlt j q hj) hpq
    · rw [List.getElem?_append_left h1] at hi
      rw [List.getElem?_append_right (by omega)] at hj
      exact absurd (hpq ▸ hD1.2 _ q hj) (hno i p hi)
    · rw [List.getElem?_append_right (by omega)] at hi
      rw [List.getElem?_append_left h2] at hj
      exact absurd (hpq ▸ hD1.2 _ p hi) (hno j q hj)
    · rw [List.getElem?_append_right (by omega)] at hi
      rw [List.getElem?_append_right (by omega)] at hj
      have := hD1.1 _ _ p q hi hj hpq
      omega
  · by_cases h1 : j < ws.length
    · rw [List.getElem?_append_left h1] at hq
      exact hD.2 j q (hlt j q hq)
    · rw [List.getElem?_append_right (by omega)] at hq
      exact hF _ (hD1.2 _ q hq)
theorem fr_lastF {A : Nat → Prop} {ws : va_W} {x : Nat × va_E} {H0 H : Heap} {locs : List Loc} (hD : va_D A (ws ++ [x])) (hS : va_S A H0 H locs) (hA : ∀ q, H0.size ≤ q → A q) : ∀ q, va_A [x] H.size q → A q := fun q h => by
  rcases h with ⟨k, e, he⟩ | h
  · have hk0 : k < 1 := (List.getElem?_eq_some_iff.mp he).1
    rw [show k = 0 by omega] at he
    have hx0 : x = (q, e) := by simpa using he
    have := hD.2 ws.length x (by simp)
    rw [hx0] at this
    exact this
  · exact hA q (Nat.le_trans hS.1 h)
theorem fr_lastP {G : va_G} {cl : List vw_C} {ws : va_W} {x : Nat × va_E} {H : Heap} (hP : va_P G cl (ws ++ [x]) H) : va_P G cl [x] H := fun k q h => by
  have hk0 : k < 1 := (List.getElem?_eq_some_iff.mp h).1
  rw [show k = 0 by omega] at h
  exact hP ws.length q (by rw [List.getElem?_append_right (Nat.le_refl _)]; simpa using h)
theorem fr_lastD {ws : va_W} {x : Nat × va_E} : va_D (fun _ => True) [x] := ⟨fun i j p q hi hj _ => by
  have h1 : i < 1 := (List.getElem?_eq_some_iff.mp hi).1
  have h2 : j < 1 := (List.getElem?_eq_some_iff.mp hj).1
  omega, fun _ _ _ => trivial⟩
/-- what lies ahead goes, what lies behind stays -/
theorem fr_drop {G : va_G} {cl : List vw_C} {A : Nat → Prop} {w1 w2 : va_W} {H H1 : Heap} (hP : va_P G cl (w1 ++ w2) H) (hD : va_D A (w1 ++ w2)) (hk : ∀ q : Nat, q < H.size → ¬ va_A w1 H.size q → H1[q]? = H[q]?) : va_P G cl w2 H1 ∧ va_D A w2 := by
  have hr : ∀ (j : Nat) (y : Nat × va_E), w2[j]? = some y → (w1 ++ w2)[w1.length + j]? = some y := fun j y hy => by
    rw [List.getElem?_append_right (Nat.le_add_right _ _), Nat.add_sub_cancel_left]
    exact hy
  refine ⟨fun j y hy => ?_, fun i j p q hi hj hpq => ?_, fun j q hq => hD.2 _ q (hr j q hq)⟩
  · have h0 := hP _ y (hr j y hy)
    refine h0.kept (hk y.1 h0.lt (fun hA => ?_))
    rcases hA with ⟨k, e, he⟩ | hge
    · have hkl : k < w1.length := (List.getElem?_eq_some_iff.mp he).1
      have := hD.1 k (w1.length + j) (y.1, e) y (by rw [List.getElem?_append_left hkl]; exact he) (hr j y hy) rfl
      omega
    · exact absurd h0.lt (Nat.not_lt.mpr hge)
  · have := hD.1 _ _ p q (hr i p hi) (hr j q hj) hpq
    omega
theorem fr_left {G : va_G} {cl : List vw_C} {A : Nat → Prop} {w1 w2 : va_W} {H : Heap} (hP : va_P G cl (w1 ++ w2) H) (hD : va_D A (w1 ++ w2)) : va_P G cl w1 H ∧ va_D A w1 := by
  have hr : ∀ (j : Nat) (y : Nat × va_E), w1[j]? = some y → (w1 ++ w2)[j]? = some y := fun j y hy => by
    rw [List.getElem?_append_left ((List.getElem?_eq_some_iff.mp hy).1)]
    exact hy
  exact ⟨fun j y hy => hP j y (hr j y hy), fun i j p q hi hj hpq => hD.1 i j p q (hr i p hi) (hr j q hj) hpq, fun j q hq => hD.2 j q (hr j q hq)⟩
theorem fr_leftF {A : Nat → Prop} {w1 w2 : va_W} {H0 H : Heap} {locs : List Loc} (hD : va_D A (w1 ++ w2)) (hS : va_S A H0 H locs) (hA : ∀ q, H0.size ≤ q → A q) : ∀ q, va_A w1 H.size q → A q := fun q h => by
  rcases h with ⟨k, e, he⟩ | h
  · exact hD.2 k (q, e) (by rw [List.getElem?_append_left ((List.getElem?_eq_some_iff.mp he).1)]; exact he)
  · exact hA q (Nat.le_trans hS.1 h)
theorem fr_free {A : Nat → Prop} {ws : va_W} {H0 H : Heap} {locs : List Loc} (hD : va_D A ws) (hS : va_S A H0 H locs) (hA : ∀ q, H0.size ≤ q → A q) : ∀ q, va_A ws H.size q → A q := fun q h => by
  rcases h with ⟨k, e, he⟩ | h
  · exact hD.2 k (q, e) he
  · exact hA q (Nat.le_trans hS.1 h)
theorem in_lit {i : Int32} {n : Nat} (h : (decide (i < 0) || decide (n ≤ i.toNatClampNeg)) = false) : vp_in i n := by
  simp at h
  intro hc
  rcases hc with h1 | h1
  · exact absurd h1 (by simpa using h.1)
  · exact absurd h1 (by simpa using h.2)
theorem upd_same (v : Int32) (k : Nat) : upd (fun _ => v) k v = fun _ => v := by
  funext j
  unfold upd
  split <;> rfl
/-- the array class of a kind is one -/
theorem cy_one {G : va_G} {cl : List vw_C} {tys : List (ClassId × FieldType)} {s : State} {cA cB : ClassId} {ty : FieldType} (hK : va_K G cl (tys ++ [(cA, ty)]) s) (k : Nat) (hk : tys[k]? = some (cB, ty)) : cA = cB := by
  have h1 := (hK.2 tys.length (cA, ty) (by simp)).2
  have h2 := (hK.2 k (cB, ty) (by rw [List.getElem?_append_left ((List.getElem?_eq_some_iff.mp hk).1)]; exact hk)).2
  cases ty <;> simp only [va_RA] at h1 h2 <;> first | exact Option.some.inj (h1.symm.trans h2) | (obtain ⟨-, -, -, -, -, h1⟩ := h1; obtain ⟨-, -, -, -, -, h2⟩ := h2; exact Option.some.inj (h1.symm.trans h2))
def lst (l : List Nat) (k : Nat) : Nat := l.getD k 0
def lsf (l : List (Nat → Int32)) (k : Nat) : Nat → Int32 := l.getD k (fun _ => 0)
def swF : Nat → Value := fun j => .int (([0, 3, 4, 7, 8, 9] : List Int32).getD j 0)
def SWt (t : Nat) (A : Nat → Prop) (U : State) : Prop := va_Z "TuneLocks$Town" "SWEET_UNTOLD" "[I" (.ref t) A U U.heap ∧ va_T .int t 6 swF A U U.heap
def EnS (G : va_G) (cy : Nat → ClassId) (ws : va_W) (sz : Nat) (t : Nat) (U : State) : Prop := En G cy ws sz U ∧ SWt t (va_A ws sz) U
theorem SWt.of {t : Nat} {A A1 : Nat → Prop} {s U : State} {H : Heap} {locs : List Loc} (h : SWt t A s) (hS : va_S A s.heap H locs) (hF : ∀ q, A1 q → A q) (hU : U.heap = H) (hW : s.WarmedH U.vm) : SWt t A1 U := by
  have h1 := (va_Z.moved hW.alike (va_Z.narrow (va_Z.kept h.1 hS.2.1) hF))
  have h2 := (va_T.moved hW.alike (va_T.narrow (va_T.kept h.2 hS.2.1) hF))
  rw [← hU] at h1 h2
  exact ⟨h1, h2⟩
theorem EnS.blind {G : va_G} {cy : Nat → ClassId} {ws : va_W} {sz t : Nat} {av : List Value} : FrameBlind (va_Pc av (EnS G cy ws sz t)) := fun a U g mk q => by
  obtain ⟨q0, q1, q2⟩ := q
  obtain ⟨-, q1'⟩ := En.blind (av := a.toList) a U g mk ⟨by simp, q1⟩
  exact ⟨q0, q1', va_Z.moved (u := U) (U := U.calling g mk a) (Vm.Alike.refl U.vm) q2.1, va_T.moved (u := U) (U := U.calling g mk a) (Vm.Alike.refl U.vm) q2.2⟩
theorem ow_lt (a b : Int32) : a < b ↔ a.toInt < b.toInt := Int32.lt_iff_toInt_lt
theorem ow_le (a b : Int32) : a ≤ b ↔ a.toInt ≤ b.toInt := Int32.le_iff_toInt_le
theorem ow_eq (a b : Int32) : a = b ↔ a.toInt = b.toInt := ⟨fun h => by rw [h], fun h => Int32.toInt_inj.mp h⟩
theorem ow_i0 {P : Prop} [Decidable P] {r : Int32} (h : r = if P then 1 else 0) (c : r = 0) : ¬ P := fun hp => by
  rw [if_pos hp] at h
  rw [h] at c
  exact absurd c (by decide)
theorem ow_i1 {P : Prop} [Decidable P] {r : Int32} (h : r = if P then 1 else 0) (c : ¬ r = 0) : P := by
  by_cases hp : P
  · exact hp
  · rw [if_neg hp] at h
    exact absurd h c
/-- a number is one of the first n, or none of them -/
theorem ow_cut (x : Int32) (n : Nat) (hn : n < 2 ^ 31) : (∃ j, j < n ∧ x = nI j) ∨ (x.toInt < 0 ∨ (n : Int) ≤ x.toInt) := by
  rcases pk_ix x hn with h | h | ⟨j, h1, h2⟩
  · right; left
    have := (ow_lt x 0).mp h
    have z : (0 : Int32).toInt = 0 := by decide
    omega
  · right; right
    have := (ow_le (nI n) x).mp h
    rw [nI_toInt hn] at this
    exact this
  · left
    exact ⟨j, h1, h2⟩
section OWN
variable {p : Program} {l : Launch} {e : Env} {R : Room} {s : State} {m : MethodId} {args : Array Value} {below : List Frame} {meth : Method} {c : Code} {H : Heap} {locs : List Loc} {cells slots : Nat} {Q : State → Prop}
variable {cc : ByteArray} {pc : Nat} {ls : Array Slot} {rest : List Value} {D : va_G} {cl : List vw_C} {A : Nat → Prop} {a : Nat} {cy : Nat → ClassId} {ws : va_W} {H0 : Heap}
theorem ow_newa (hexec : p.tables.exec = Jvm.exec) (hb : c.code = cc) {atype : ArrayType} (harr : (Cond.arrayClass (newarray.typeOf atype)).before args s = true) {ty : FieldType} (hty : newarray.typeOf atype = ty) (hK : va_K D cl (TY cy) s) (hP : va_P D cl ws H) (hD : va_D A ws) (hS : va_S A H0 H locs) (hA : ∀ q, H0.size ≤ q → A q) (k : Nat) {cB : ClassId} (hk : (TY cy)[k]? = some (cB, ty))
    {n : Int32} {N' : Nat} {a0 : vp_A} (ha : ∀ cA : ClassId, vp_cell cA a0 = arrV cA N' (fun _ => defaultValue ty)) (hn : ¬ n < 0) (hN : n.toNatClampNeg = N') (hbytes : N' * componentBytes ty ≤ 536870912) (hcells : cells + 1 ≤ R.cells) (hslots : slots + N' ≤ R.slots) (hdg : decode cc pc = .ok (.newarray atype, 2))
    (kk : ∀ (q : Nat) (H1 : Heap), va_P D cl (ws ++ [(q, .inl (cB, a0))]) H1 → va_D A (ws ++ [(q, .inl (cB, a0))]) → va_S A H0 H1 locs →
      W p l e R s m args below meth c H1 locs (cells + 1) (slots + N') Q (F0 m (pc + 2) ls (.ref q :: rest))) : W p l e R s m args below meth c H locs cells slots Q (F0 m pc ls (.int n :: rest)) := by
  refine va_newa hexec hb harr hty hK hP hD hS hA ha hn hN hbytes hcells hslots hdg (fun q cA H1 hK1 hP1 hD1 hS1 => ?_)
  have e1 := cy_one hK1 k hk
  subst e1
  exact kk q H1 hP1 hD1 hS1
theorem ow_newq (hexec : p.tables.exec = Jvm.exec) (hb : c.code = cc) {own C : String} {index : Nat} (hown : s.vm.findClass own = some m.cls) (hclink : (Cond.classLink own index C).before args s = true) (hN9 : va_AO C s) (hK : va_K D cl (TY cy) s) (hP : va_P D cl ws H) (hD : va_D A ws) (hS : va_S A H0 H locs) (hA : ∀ q, H0.size ≤ q → A q) (k : Nat) {cB : ClassId} (hk : (TY cy)[k]? = some (cB, .object C))
    {n : Int32} {N' : Nat} (hn : ¬ n < 0) (hN : n.toNatClampNeg = N') (hbytes : N' * 4 ≤ 536870912) (hcells : cells + 1 ≤ R.cells) (hslots : slots + N' ≤ R.slots) (hdg : decode cc pc = .ok (.anewarray index, 3))
    (kk : ∀ (q : Nat) (H1 : Heap), va_P D cl (ws ++ [(q, .inl (cB, N', .inr (.inr (.inr (.inr (fun _ => none))))))]) H1 → va_D A (ws ++ [(q, .inl (cB, N', .inr (.inr (.inr (.inr (fun _ => none))))))]) → va_S A H0 H1 locs →
      W p l e R s m args below meth c H1 locs (cells + 1) (slots + N') Q (F0 m (pc + 3) ls (.ref q :: rest))) : W p l e R s m args below meth c H locs cells slots Q (F0 m pc ls (.int n :: rest)) := by
  refine va_newq hexec hb hown hclink hN9 hK hP hD hS hA hn hN hbytes hcells hslots hdg (fun q cA H1 hK1 hP1 hD1 hS1 => ?_)
  have e1 := cy_one hK1 k hk
  subst e1
  exact kk q H1 hP1 hD1 hS1
/-- a store into an array of ints, what it holds then is not told -/
theorem ow_iast (hexec : p.tables.exec = Jvm.exec) (hb : c.code = cc) (hK : va_K D cl (TY cy) s) (hP : va_P D cl ws H) (hD : va_D A ws) (hS : va_S A H0 H locs) (q0 : Nat) {n : Nat} {f : Nat → Int32} (ha : ws[q0]? = some (a, .inl (cy 0, n, .inl f))) {i : Int32} {x : Int32} (hin : vp_in i n) (hdg : decode cc pc = .ok (.iastore, 1))
    (kk : ∀ (f1 : Nat → Int32) (H1 : Heap) (locs1 : List Loc), va_P D cl (ws.set q0 (a, .inl (cy 0, n, .inl f1))) H1 → va_D A (ws.set q0 (a, .inl (cy 0, n, .inl f1))) → va_S A H0 H1 locs1 → W p l e R s m args below meth c H1 locs1 cells slots Q (F0 m (pc + 1) ls rest)) : W p l e R s m args below meth c H locs cells slots Q (F0 m pc ls (.int x :: .int i :: .ref a :: rest)) :=
  va_iast hexec hb hK hP hD hS q0 0 ha rfl hin hdg (fun H1 l1 h1 h2 h3 => kk _ H1 l1 h1 h2 h3)
theorem ow_bast (hexec : p.tables.exec = Jvm.exec) (hb : c.code = cc) (hK : va_K D cl (TY cy) s) (hP : va_P D cl ws H) (hD : va_D A ws) (hS : va_S A H0 H locs) (q0 : Nat) {n : Nat} {f : Nat → Int32} (ha : ws[q0]? = some (a, .inl (cy 1, n, .inl f))) {i : Int32} {x : Int32} (hin : vp_in i n) (hdg : decode cc pc = .ok (.bastore, 1))
    (kk : ∀ (f1 : Nat → Int32) (H1 : Heap) (locs1 : List Loc), va_P D cl (ws.set q0 (a, .inl (cy 1, n, .inl f1))) H1 → va_D A (ws.set q0 (a, .inl (cy 1, n, .inl f1))) → va_S A H0 H1 locs1 → W p l e R s m args below meth c H1 locs1 cells slots Q (F0 m (pc + 1) ls rest)) : W p l e R s m args below meth c H locs cells slots Q (F0 m pc ls (.int x :: .int i :: .ref a :: rest)) :=
  va_bast hexec hb hK hP hD hS q0 1 ha rfl hin hdg (fun H1 l1 h1 h2 h3 => kk _ H1 l1 h1 h2 h3)
theorem ow_zast (hexec : p.tables.exec = Jvm.exec) (hb : c.code = cc) (hK : va_K D cl (TY cy) s) (hP : va_P D cl ws H) (hD : va_D A ws) (hS : va_S A H0 H locs) (q0 : Nat) {n : Nat} {f : Nat → Int32} (ha : ws[q0]? = some (a, .inl (cy 2, n, .inl f))) {i : Int32} {x : Int32} (hin : vp_in i n) (hdg : decode cc pc = .ok (.bastore, 1))
    (kk : ∀ (f1 : Nat → Int32) (H1 : Heap) (locs1 : List Loc), va_P D cl (ws.set q0 (a, .inl (cy 2, n, .inl f1))) H1 → va_D A (ws.set q0 (a, .inl (cy 2, n, .inl f1))) → va_S A H0 H1 locs1 → W p l e R s m args below meth c H1 locs1 cells slots Q (F0 m (pc + 1) ls rest)) : W p l e R s m args below meth c H locs cells slots Q (F0 m pc ls (.int x :: .int i :: .ref a :: rest)) :=
  va_zast hexec hb hK hP hD hS q0 2 ha rfl hin hdg (fun H1 l1 h1 h2 h3 => kk _ H1 l1 h1 h2 h3)
/-- a store into an array of ints, of a number that stands everywhere in it -/
theorem ow_iastS (hexec : p.tables.exec = Jvm.exec) (hb : c.code = cc) (hK : va_K D cl (TY cy) s) (hP : va_P D cl ws H) (hD : va_D A ws) (hS : va_S A H0 H locs) (q0 : Nat) {n : Nat} {i : Int32} {x : Int32} (ha : ws[q0]? = some (a, .inl (cy 0, n, .inl (fun _ => x)))) (hin : vp_in i n) (hdg : decode cc pc = .ok (.iastore, 1))
    (kk : ∀ (H1 : Heap) (locs1 : List Loc), va_P D cl (ws.set q0 (a, .inl (cy 0, n, .inl (fun _ => x)))) H1 → va_D A (ws.set q0 (a, .inl (cy 0, n, .inl (fun _ => x)))) → va_S A H0 H1 locs1 → W p l e R s m args below meth c H1 locs1 cells slots Q (F0 m (pc + 1) ls rest)) : W p l e R s m args below meth c H locs cells slots Q (F0 m pc ls (.int x :: .int i :: .ref a :: rest)) :=
  va_iast hexec hb hK hP hD hS q0 0 ha rfl hin hdg (fun H1 l1 h1 h2 h3 => kk H1 l1 (by rw [upd_same] at h1; exact h1) (by rw [upd_same] at h2; exact h2) h3)
theorem ow_astq (hexec : p.tables.exec = Jvm.exec) (hb : c.code = cc) {tys : List (ClassId × FieldType)} (hK : va_K D cl tys s) (hP : va_P D cl ws H) (hD : va_D A ws) (hS : va_S A H0 H locs) (q0 t0 qk ci : Nat) {cA : ClassId} {r : vw_C} {n v : Nat} {vs : List Value} {f : Nat → Option Nat} (ha : ws[q0]? = some (a, .inl (cA, n, .inr (.inr (.inr (.inr f)))))) (ht : tys[t0]? = some (cA, .object r.1)) (hv : ws[qk]? = some (v, .inr (ci, vs))) (hc : cl[ci]? = some r) {i : Int32} (hin : vp_in i n) (hdg : decode cc pc = .ok (.aastore, 1))
    (kk : ∀ (f1 : Nat → Option Nat) (H1 : Heap) (locs1 : List Loc), va_P D cl (ws.set q0 (a, .inl (cA, n, .inr (.inr (.inr (.inr f1)))))) H1 → va_D A (ws.set q0 (a, .inl (cA, n, .inr (.inr (.inr (.inr f1)))))) → va_S A H0 H1 locs1 → W p l e R s m args below meth c H1 locs1 cells slots Q (F0 m (pc + 1) ls rest)) : W p l e R s m args below meth c H locs cells slots Q (F0 m pc ls (.ref v :: .int i :: .ref a :: rest)) :=
  va_astq hexec hb hK hP hD hS q0 t0 qk ci ha ht hv hc hin hdg (fun H1 l1 h1 h2 h3 => kk _ H1 l1 h1 h2 h3)
/-- a number that is known by another name -/
theorem ow_top {x : Int32} (y : Int32) (h : x = y) (k : W p l e R s m args below meth c H locs cells slots Q (F0 m pc ls (.int y :: rest))) : W p l e R s m args below meth c H locs cells slots Q (F0 m pc ls (.int x :: rest)) := by rw [h]; exact k
/-- new int[n][k], of which only the reference is kept -/
theorem ow_mna (hexec : p.tables.exec = Jvm.exec) (hb : c.code = cc) {own : String} {index : Nat} {ty : FieldType} (hown : s.vm.findClass own = some m.cls) (hclink : (Cond.classLink own index ("[" ++ (FieldType.array ty).toString)).before args s = true) (hover : (Cond.arrayOver (.array ty)).before args s = true) (harr : (Cond.arrayClass ty).before args s = true)
    (hP : va_P D cl ws H) (hS : va_S A H0 H locs) {n k : Int32} {N' K' : Nat} (hn : ¬ n < 0) (hk : ¬ k < 0) (hN : n.toNatClampNeg = N') (hM : k.toNatClampNeg = K')
    (hb1 : N' * 4 ≤ 536870912) (hb2 : K' * componentBytes ty ≤ 536870912) (hb3 : K' ≤ 536870912) (hdf : fits ty (defaultValue ty) = true) (hdd : (defaultValue ty).isDefault = true) (hcells : cells + (1 + N') ≤ R.cells) (hslots : slots + (N' + N' * K') ≤ R.slots) (hdg : decode cc pc = .ok (.multianewarray index 2, 4))
    (kk : ∀ (q : Nat) (H1 : Heap), va_P D cl ws H1 → va_S A H0 H1 locs → W p l e R s m args below meth c H1 locs (cells + 1 + N') (slots + N' + N' * K') Q (F0 m (pc + 4) ls (.ref q :: rest))) : W p l e R s m args below meth c H locs cells slots Q (F0 m pc ls (.int k :: .int n :: rest)) := by
  subst hN
  subst hM
  intro T hT Xs
  obtain ⟨vm₁, cA, comp, -, fA, fC, hO, -, X', step⟩ := Jvm.Stand.multianewarray2F Xs hexec hown hclink hover harr (g := F0 m pc ls (.int k :: .int n :: rest)) rfl (by rw [hb]; exact hdg) rfl hn hk hb1 hb2 hb3 hdf hdd hcells hslots
  generalize hF : Jvm.Free.Multi.fill (T.setVm vm₁) cA comp n.toNatClampNeg k.toNatClampNeg (defaultValue ty) n.toNatClampNeg = F at X' step
  have hTh : (T.setVm vm₁).heap = H := hT
  obtain ⟨f1, f2, -, -⟩ := Jvm.Free.Multi.fill_facts (T.setVm vm₁) cA comp n.toNatClampNeg k.toNatClampNeg (defaultValue ty) n.toNatClampNeg
  rw [hF, hTh] at f1
  have hold : ∀ x : Nat, x < H.size → F.heap[x]? = H[x]? := fun x hx => by
    have := Jvm.Free.Multi.fill_old (T.setVm vm₁) cA comp n.toNatClampNeg k.toNatClampNeg (defaultValue ty) (a := x) (by rw [hTh]; exact hx) n.toNatClampNeg
    rw [hF, hTh] at this
    exact this
  have hP0 : va_P D cl ws F.heap := hP.kept (fun k9 x hx => hold x.1 ((hP k9 x hx).lt))
  have hS0 : va_S A H0 F.heap locs := ⟨Nat.le_trans hS.1 (by omega), fun x h1 h2 => (hold x (Nat.lt_of_lt_of_le h1 hS.1)).trans (hS.2.1 x h1 h2), hS.2.2⟩
  obtain ⟨t, a1, b1⟩ := kk T.heap.size F.heap hP0 hS0 F rfl X'
  exact ⟨t, step t a1, b1⟩
end OWN
