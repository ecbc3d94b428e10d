theorem dX12_emit_0 : decode cX12_emit 0 = .ok (.aload_n 0, 1) := by decide +kernel
theorem dX12_emit_1 : decode cX12_emit 1 = .ok (.getfield 62, 3) := by decide +kernel
theorem dX12_emit_4 : decode cX12_emit 4 = .ok (.aload_n 0, 1) := by decide +kernel
theorem dX12_emit_5 : decode cX12_emit 5 = .ok (.getfield 221, 3) := by decide +kernel
theorem dX12_emit_8 : decode cX12_emit 8 = .ok (.iload_n 1, 1) := by decide +kernel
theorem dX12_emit_9 : decode cX12_emit 9 = .ok (.iastore, 1) := by decide +kernel
theorem dX12_emit_10 : decode cX12_emit 10 = .ok (.aload_n 0, 1) := by decide +kernel
theorem dX12_emit_11 : decode cX12_emit 11 = .ok (.getfield 65, 3) := by decide +kernel
theorem dX12_emit_14 : decode cX12_emit 14 = .ok (.aload_n 0, 1) := by decide +kernel
theorem dX12_emit_15 : decode cX12_emit 15 = .ok (.getfield 221, 3) := by decide +kernel
theorem dX12_emit_18 : decode cX12_emit 18 = .ok (.iload_n 2, 1) := by decide +kernel
theorem dX12_emit_19 : decode cX12_emit 19 = .ok (.iastore, 1) := by decide +kernel
theorem dX12_emit_20 : decode cX12_emit 20 = .ok (.aload_n 0, 1) := by decide +kernel
theorem dX12_emit_21 : decode cX12_emit 21 = .ok (.dup, 1) := by decide +kernel
theorem dX12_emit_22 : decode cX12_emit 22 = .ok (.getfield 221, 3) := by decide +kernel
theorem dX12_emit_25 : decode cX12_emit 25 = .ok (.iconst 1, 1) := by decide +kernel
theorem dX12_emit_26 : decode cX12_emit 26 = .ok (.iadd, 1) := by decide +kernel
theorem dX12_emit_27 : decode cX12_emit 27 = .ok (.putfield 221, 3) := by decide +kernel
theorem dX12_emit_30 : decode cX12_emit 30 = .ok (.return_, 1) := by decide +kernel
theorem dX12_pushE_0 : decode cX12_pushE 0 = .ok (.aload_n 0, 1) := by decide +kernel
theorem dX12_pushE_1 : decode cX12_pushE 1 = .ok (.getfield 68, 3) := by decide +kernel
theorem dX12_pushE_4 : decode cX12_pushE 4 = .ok (.aload_n 0, 1) := by decide +kernel
theorem dX12_pushE_5 : decode cX12_pushE 5 = .ok (.getfield 284, 3) := by decide +kernel
theorem dX12_pushE_8 : decode cX12_pushE 8 = .ok (.iload_n 1, 1) := by decide +kernel
theorem dX12_pushE_9 : decode cX12_pushE 9 = .ok (.iastore, 1) := by decide +kernel
theorem dX12_pushE_10 : decode cX12_pushE 10 = .ok (.aload_n 0, 1) := by decide +kernel
theorem dX12_pushE_11 : decode cX12_pushE 11 = .ok (.getfield 71, 3) := by decide +kernel
theorem dX12_pushE_14 : decode cX12_pushE 14 = .ok (.aload_n 0, 1) := by decide +kernel
theorem dX12_pushE_15 : decode cX12_pushE 15 = .ok (.getfield 284, 3) := by decide +kernel
theorem dX12_pushE_18 : decode cX12_pushE 18 = .ok (.iload_n 2, 1) := by decide +kernel
theorem dX12_pushE_19 : decode cX12_pushE 19 = .ok (.iastore, 1) := by decide +kernel
theorem dX12_pushE_20 : decode cX12_pushE 20 = .ok (.aload_n 0, 1) := by decide +kernel
theorem dX12_pushE_21 : decode cX12_pushE 21 = .ok (.dup, 1) := by decide +kernel
theorem dX12_pushE_22 : decode cX12_pushE 22 = .ok (.getfield 284, 3) := by decide +kernel
theorem dX12_pushE_25 : decode cX12_pushE 25 = .ok (.iconst 1, 1) := by decide +kernel
theorem dX12_pushE_26 : decode cX12_pushE 26 = .ok (.iadd, 1) := by decide +kernel
theorem dX12_pushE_27 : decode cX12_pushE 27 = .ok (.putfield 284, 3) := by decide +kernel
theorem dX12_pushE_30 : decode cX12_pushE 30 = .ok (.return_, 1) := by decide +kernel
/-! rows of e and the pile -/
theorem hg_cong {co co' : Nat → Int32} {F n : Nat} (h : ∀ k, k < n → co' (F + k) = co (F + k)) : hg co' F n = hg co F n := by
  induction n with
  | zero => rfl
  | succ n ih =>
    show hg co' F n + hgd _ = hg co F n + hgd _
    rw [ih (fun k hk => h k (by omega)), h n (by omega)]
theorem wfr_cong {co co' cn cn' : Nat → Int32} {F E : Nat} (h : ∀ k, F ≤ k → k < E → co' k = co k ∧ cn' k = cn k) (hw : wfr co cn F E) : wfr co' cn' F E := fun n hn => by
  have e := h (F + n) (by omega) hn
  have eh : hg co' F n = hg co F n := hg_cong (fun k hk => (h (F + k) (by omega) (by omega)).1)
  rw [eh, e.1, e.2]
  exact hw n hn
theorem wfr_snoc {co cn : Nat → Int32} {F E : Nat} (hw : wfr co cn F E) (hFE : F ≤ E) (c n : Int32) (h1 : hg co F (E - F) ≤ 100) (h2 : (97 ≤ c.toInt ∧ c.toInt ≤ 122) → 0 ≤ hg co F (E - F) ∧ okc c.toInt n.toInt) (h3 : c.toInt = 126 → 1 ≤ hg co F (E - F)) (h4 : ¬ (97 ≤ c.toInt ∧ c.toInt ≤ 122) → ¬ c.toInt = 126 → 2 ≤ hg co F (E - F)) : wfr (upd co E c) (upd cn E n) F (E + 1) := fun k hk => by
  have eh : hg (upd co E c) F k = hg co F k := hg_cong (fun j hj => pk_un (by omega))
  by_cases e : F + k = E
  · have e2 : k = E - F := by omega
    rw [eh, e, pk_us, pk_us, e2]
    exact ⟨h1, h2, h3, h4⟩
  · rw [eh, pk_un e, pk_un e]
    exact hw k (by omega)
theorem hg_snoc {co : Nat → Int32} {F E : Nat} (hFE : F ≤ E) (c : Int32) : hg (upd co E c) F (E + 1 - F) = hg co F (E - F) + hgd c.toInt := by
  rw [show E + 1 - F = (E - F) + 1 by omega]
  show hg (upd co E c) F (E - F) + hgd (upd co E c (F + (E - F))).toInt = _
  rw [hg_cong (co := co) (fun j hj => pk_un (by omega)), show F + (E - F) = E by omega, pk_us]
def wW (x : Int) : Int := if x = 3 ∨ x = 6 then 1 else 0
def wB (x : Int) : Int := if x = 1 ∨ x = 2 ∨ x = 4 ∨ x = 5 then 1 else 0
def cnE (w : Int → Int) (e : Nat → Int32) : Nat → Int
  | 0 => 0
  | n + 1 => cnE w e n + w (e n).toInt
theorem cnE_cong {w : Int → Int} {e e' : Nat → Int32} {n : Nat} (h : ∀ k, k < n → e' k = e k) : cnE w e' n = cnE w e n := by
  induction n with
  | zero => rfl
  | succ n ih =>
    show cnE w e' n + _ = cnE w e n + _
    rw [ih (fun k hk => h k (by omega)), h n (by omega)]
theorem cnE_snoc {w : Int → Int} {e : Nat → Int32} (n : Nat) (x : Int32) : cnE w (upd e n x) (n + 1) = cnE w e n + w x.toInt := by
  show cnE w (upd e n x) n + w (upd e n x n).toInt = _
  rw [pk_us, cnE_cong (fun k hk => pk_un (by omega))]
theorem cnE_pop {w : Int → Int} {e : Nat → Int32} {n : Nat} (h : 1 ≤ n) : cnE w e n = cnE w e (n - 1) + w (e (n - 1)).toInt := by
  obtain ⟨m, rfl⟩ : ∃ m, n = m + 1 := ⟨n - 1, by omega⟩
  rfl
theorem wB_rg (x : Int) : 0 ≤ wB x ∧ wB x ≤ 1 := by
  unfold wB
  split <;> omega
theorem cB_rg (e : Nat → Int32) (n : Nat) : 0 ≤ cnE wB e n ∧ cnE wB e n ≤ n := by
  induction n with
  | zero => exact ⟨Int.le_refl _, Int.le_refl _⟩
  | succ n ih =>
    have := wB_rg (e n).toInt
    show 0 ≤ cnE wB e n + _ ∧ cnE wB e n + _ ≤ _
    omega
theorem cW_rg (e : Nat → Int32) (n : Nat) : 0 ≤ cnE wW e n := by
  induction n with
  | zero => exact Int.le_refl _
  | succ n ih =>
    have : 0 ≤ wW (e n).toInt := by
      unfold wW
      split <;> omega
    show 0 ≤ cnE wW e n + _
    omega
def okE (w s : Int) : Prop := (w = 3 ∧ s = 126) ∨ w = 6 ∨ w = 7 ∨ ((w = 1 ∨ w = 2 ∨ w = 4 ∨ w = 5) ∧ ¬ (97 ≤ s ∧ s ≤ 122) ∧ s ≠ 126)
def PE (e s : Nat → Int32) (n : Nat) : Prop := ∀ i, i < n → okE (e i).toInt (s i).toInt
theorem PE.snoc {e s : Nat → Int32} {n : Nat} (h : PE e s n) (x y : Int32) (hx : okE x.toInt y.toInt) : PE (upd e n x) (upd s n y) (n + 1) := fun i hi => by
  by_cases q : i = n
  · subst q
    rw [pk_us, pk_us]
    exact hx
  · rw [pk_un q, pk_un q]
    exact h i (by omega)
def EI (wt rb F cd p w U : Int) (eW eS co cn : Nat → Int32) : Prop := (0 ≤ rb) ∧ (600 * rb ≤ F) ∧ (F ≤ cd) ∧ (0 ≤ p) ∧ (wt = 1 → 1 ≤ p) ∧ (1 ≤ p → (eW 0).toInt = 7) ∧ (w = cnE wW eW p.toNat) ∧ (p ≤ w + U + wt) ∧ (wt = 1 → cd - 600 * rb + p ≤ 9 * U + w + 1) ∧ (wt = 0 → cd - 600 * rb + p ≤ 9 * U) ∧ (PE eW eS p.toNat) ∧ (wfr co cn F.toNat cd.toNat) ∧ (hg co F.toNat (cd.toNat - F.toNat) = cnE wB eW p.toNat + 1 - wt)
theorem EI.r0 {wt rb F cd p w U : Int} {eW eS co cn : Nat → Int32} (h : EI wt rb F cd p w U eW eS co cn) : 0 ≤ rb := h.1
theorem EI.f0 {wt rb F cd p w U : Int} {eW eS co cn : Nat → Int32} (h : EI wt rb F cd p w U eW eS co cn) : 600 * rb ≤ F := h.2.1
theorem EI.f1 {wt rb F cd p w U : Int} {eW eS co cn : Nat → Int32} (h : EI wt rb F cd p w U eW eS co cn) : F ≤ cd := h.2.2.1
theorem EI.p0 {wt rb F cd p w U : Int} {eW eS co cn : Nat → Int32} (h : EI wt rb F cd p w U eW eS co cn) : 0 ≤ p := h.2.2.2.1
theorem EI.p1 {wt rb F cd p w U : Int} {eW eS co cn : Nat → Int32} (h : EI wt rb F cd p w U eW eS co cn) : wt = 1 → 1 ≤ p := h.2.2.2.2.1
theorem EI.e0 {wt rb F cd p w U : Int} {eW eS co cn : Nat → Int32} (h : EI wt rb F cd p w U eW eS co cn) : 1 ≤ p → (eW 0).toInt = 7 := h.2.2.2.2.2.1
theorem EI.ew {wt rb F cd p w U : Int} {eW eS co cn : Nat → Int32} (h : EI wt rb F cd p w U eW eS co cn) : w = cnE wW eW p.toNat := h.2.2.2.2.2.2.1
theorem EI.pb {wt rb F cd p w U : Int} {eW eS co cn : Nat → Int32} (h : EI wt rb F cd p w U eW eS co cn) : p ≤ w + U + wt := h.2.2.2.2.2.2.2.1
theorem EI.c1 {wt rb F cd p w U : Int} {eW eS co cn : Nat → Int32} (h : EI wt rb F cd p w U eW eS co cn) : wt = 1 → cd - 600 * rb + p ≤ 9 * U + w + 1 := h.2.2.2.2.2.2.2.2.1
theorem EI.c0 {wt rb F cd p w U : Int} {eW eS co cn : Nat → Int32} (h : EI wt rb F cd p w U eW eS co cn) : wt = 0 → cd - 600 * rb + p ≤ 9 * U := h.2.2.2.2.2.2.2.2.2.1
theorem EI.pe {wt rb F cd p w U : Int} {eW eS co cn : Nat → Int32} (h : EI wt rb F cd p w U eW eS co cn) : PE eW eS p.toNat := h.2.2.2.2.2.2.2.2.2.2.1
theorem EI.wf {wt rb F cd p w U : Int} {eW eS co cn : Nat → Int32} (h : EI wt rb F cd p w U eW eS co cn) : wfr co cn F.toNat cd.toNat := h.2.2.2.2.2.2.2.2.2.2.2.1
theorem EI.hh {wt rb F cd p w U : Int} {eW eS co cn : Nat → Int32} (h : EI wt rb F cd p w U eW eS co cn) : hg co F.toNat (cd.toNat - F.toNat) = cnE wB eW p.toNat + 1 - wt := h.2.2.2.2.2.2.2.2.2.2.2.2
theorem EI.mk9 {wt rb F cd p w U : Int} {eW eS co cn : Nat → Int32} (r0 : 0 ≤ rb) (f0 : 600 * rb ≤ F) (f1 : F ≤ cd) (p0 : 0 ≤ p) (p1 : wt = 1 → 1 ≤ p) (e0 : 1 ≤ p → (eW 0).toInt = 7) (ew : w = cnE wW eW p.toNat) (pb : p ≤ w + U + wt) (c1 : wt = 1 → cd - 600 * rb + p ≤ 9 * U + w + 1) (c0 : wt = 0 → cd - 600 * rb + p ≤ 9 * U) (pe : PE eW eS p.toNat) (wf : wfr co cn F.toNat cd.toNat) (hh : hg co F.toNat (cd.toNat - F.toNat) = cnE wB eW p.toNat + 1 - wt) : EI wt rb F cd p w U eW eS co cn := ⟨r0, f0, f1, p0, p1, e0, ew, pb, c1, c0, pe, wf, hh⟩
theorem EI.cast {wt rb F cd p w U wt' cd' p' w' U' : Int} {eW eS co cn : Nat → Int32} (h : EI wt rb F cd p w U eW eS co cn) (h1 : wt' = wt) (h2 : cd' = cd) (h3 : p' = p) (h4 : w' = w) (h5 : U' = U) : EI wt' rb F cd' p' w' U' eW eS co cn := by
  subst h1 h2 h3 h4 h5
  exact h
theorem EI.top {wt rb F cd p w U : Int} {eW eS co cn : Nat → Int32} (h : EI wt rb F cd p w U eW eS co cn) (hp : 1 ≤ p) (hx : (eW (p.toNat - 1)).toInt = 3 ∨ (eW (p.toNat - 1)).toInt = 6) : 1 ≤ w := by
  have e1 := h.ew
  rw [cnE_pop (by omega)] at e1
  have h7 := cW_rg eW (p.toNat - 1)
  have : wW (eW (p.toNat - 1)).toInt = 1 := by
    unfold wW
    rw [if_pos hx]
  omega
theorem EI.num {wt rb F cd p w U : Int} {eW eS co cn : Nat → Int32} (h : EI wt rb F cd p w U eW eS co cn) (hw : wt = 0 ∨ wt = 1) : 0 ≤ w ∧ 600 * rb ≤ F ∧ F ≤ cd ∧ cd - 600 * rb + p ≤ 9 * U + w + 1 ∧ p ≤ w + U + 1 := by
  have h1 := h.f0
  have h2 := h.f1
  have h3 := h.pb
  have h4 := h.c1
  have h5 := h.c0
  have h6 := h.ew
  have h7 := cW_rg eW p.toNat
  refine ⟨by omega, h1, h2, ?_, by omega⟩
  rcases hw with e | e
  · have := h5 e
    omega
  · exact h4 e
theorem EI.grow {rb F cd p w U : Int} {eW eS co cn : Nat → Int32} (h : EI 1 rb F cd p w U eW eS co cn) {x : Int32} {U' : Int} (hU : U ≤ U') (hx : x.toInt = 3 ∨ x.toInt = 6) {y : Int32} (hy : y.toInt = 126) : EI 1 rb F cd (p + 1) (w + 1) U' (upd eW p.toNat x) (upd eS p.toNat y) co cn := EI.mk9
  (r0 := h.r0)
  (f0 := h.f0)
  (f1 := h.f1)
  (p0 := by have := h.p0; omega)
  (p1 := fun _ => by have := h.p0; omega)
  (e0 := fun _ => by
      have := h.p1 rfl
      rw [pk_un (by omega)]
      exact h.e0 this)
  (ew := by
      have := h.p0
      rw [show (p + 1).toNat = p.toNat + 1 by omega, cnE_snoc, ← h.ew]
      unfold wW
      rw [if_pos hx])
  (pb := by have := h.pb; omega)
  (c1 := fun _ => by have := h.c1 rfl; omega)
  (c0 := fun q => absurd q (by omega))
  (pe := by
      have := h.p0
      rw [show (p + 1).toNat = p.toNat + 1 by omega]
      refine h.pe.snoc _ _ ?_
      unfold okE
      omega)
  (wf := h.wf)
  (hh := by
      have := h.p0
      rw [h.hh, show (p + 1).toNat = p.toNat + 1 by omega, cnE_snoc]
      have : wB x.toInt = 0 := by
        unfold wB
        rw [if_neg (by omega)]
      omega)
theorem EI.leaf {rb F cd p w U : Int} {eW eS co cn : Nat → Int32} (h : EI 1 rb F cd p w U eW eS co cn) {c n : Int32} (hw : w ≤ 7) (hU : U ≤ 60) (hc : 97 ≤ c.toInt ∧ c.toInt ≤ 122) (hk : okc c.toInt n.toInt) : EI 0 rb F (cd + 1) p w (U + 1) eW eS (upd co cd.toNat c) (upd cn cd.toNat n) := EI.mk9
  (r0 := h.r0)
  (f0 := h.f0)
  (f1 := by have := h.f1; omega)
  (p0 := h.p0)
  (p1 := fun q => absurd q (by omega))
  (e0 := h.e0)
  (ew := h.ew)
  (pb := by have := h.pb; omega)
  (c1 := fun q => absurd q (by omega))
  (c0 := fun _ => by have := h.c1 rfl; omega)
  (pe := h.pe)
  (wf := by
      have h1 := h.f1
      have h2 := h.f0
      have h3 := h.r0
      have h4 := cB_rg eW p.toNat
      have h5 := h.pb
      have h6 := h.p0
      have h7 := h.hh
      rw [show (cd + 1).toNat = cd.toNat + 1 by omega]
      refine wfr_snoc h.wf (by omega) c n (by omega) (fun _ => ⟨by omega, hk⟩) (fun q => absurd hc (by omega)) (fun q => absurd hc q))
  (hh := by
      have h1 := h.f1
      have h2 := h.f0
      have h3 := h.r0
      rw [show (cd + 1).toNat = cd.toNat + 1 by omega, hg_snoc (by omega), h.hh]
      have : hgd c.toInt = 1 := by
        unfold hgd
        rw [if_pos hc]
      omega)
theorem EI.pop {rb F cd p w U : Int} {eW eS co cn : Nat → Int32} (h : EI 0 rb F cd p w U eW eS co cn) {s n : Int32} {w' : Int} (hp : 1 ≤ p) (hw : w ≤ 7) (hU : U ≤ 60) (hx : (eW (p.toNat - 1)).toInt ≤ 5) (hs : s = eS (p.toNat - 1)) (hw' : ((eW (p.toNat - 1)).toInt = 3 ∧ w' = w - 1) ∨ ((eW (p.toNat - 1)).toInt ≠ 3 ∧ w' = w)) : 2 ≤ p ∧ 0 ≤ w' ∧ EI 0 rb F (cd + 1) (p - 1) w' U eW eS (upd co cd.toNat s) (upd cn cd.toNat n) := by
  have hok := h.pe (p.toNat - 1) (by omega)
  rw [← hs] at hok
  have h0 := h.e0 hp
  have hp2 : 2 ≤ p := by
    by_cases q : p = 1
    · rw [q] at hx
      have : (eW 0).toInt ≤ 5 := hx
      omega
    · omega
  have eW1 : w' = cnE wW eW (p.toNat - 1) := by
    have e1 := h.ew
    rw [cnE_pop (by omega)] at e1
    rcases hw' with ⟨q, q2⟩ | ⟨q, q2⟩
    · have : wW (eW (p.toNat - 1)).toInt = 1 := by
        unfold wW
        rw [if_pos (Or.inl q)]
      omega
    · have : wW (eW (p.toNat - 1)).toInt = 0 := by
        unfold wW
        rw [if_neg (by omega)]
      omega
  have hcw := cW_rg eW (p.toNat - 1)
  have eB := cnE_pop (w := wB) (e := eW) (n := p.toNat) (by omega)
  have hB := cB_rg eW (p.toNat - 1)
  have h1 := h.f1
  have h2 := h.f0
  have h3 := h.r0
  have h5 := h.pb
  have h6 := h.p0
  have h7 := h.hh
  have h8 := h.c0 rfl
  have hB2 := cB_rg eW p.toNat
  refine ⟨hp2, by omega, EI.mk9 h3 h2 (by omega) (by omega) (fun q => absurd q (by omega)) (fun _ => h0) ?_ (by omega) (fun q => absurd q (by omega)) (fun _ => by omega) ?_ ?_ ?_⟩
  · rw [show (p - 1).toNat = p.toNat - 1 by omega]
    exact eW1
  · rw [show (p - 1).toNat = p.toNat - 1 by omega]
    exact fun i hi => h.pe i (by omega)
  · rw [show (cd + 1).toNat = cd.toNat + 1 by omega]
    unfold okE at hok
    refine wfr_snoc h.wf (by omega) s n (by omega) (fun q => absurd q (by omega)) (fun q => by omega) (fun q q2 => ?_)
    have : wB (eW (p.toNat - 1)).toInt = 1 := by
      unfold wB
      rw [if_pos (by omega)]
    omega
  · rw [show (cd + 1).toNat = cd.toNat + 1 by omega, hg_snoc (by omega), h.hh, show (p - 1).toNat = p.toNat - 1 by omega, eB]
    unfold okE at hok
    by_cases q : s.toInt = 126
    · have a1 : wB (eW (p.toNat - 1)).toInt = 0 := by
        unfold wB
        rw [if_neg (by omega)]
      have a2 : hgd s.toInt = 0 := by
        unfold hgd
        rw [if_neg (by omega), if_pos q]
      omega
    · have a1 : wB (eW (p.toNat - 1)).toInt = 1 := by
        unfold wB
        rw [if_pos (by omega)]
      have a2 : hgd s.toInt = -1 := by
        unfold hgd
        rw [if_neg (by omega), if_neg q]
      omega
theorem EI.push {rb F cd p w U : Int} {eW eS co cn : Nat → Int32} (h : EI 0 rb F cd p w U eW eS co cn) {x y : Int32} (hp : 1 ≤ p) (hx : x.toInt = 1 ∨ x.toInt = 2 ∨ x.toInt = 4 ∨ x.toInt = 5) (hy : ¬ (97 ≤ y.toInt ∧ y.toInt ≤ 122) ∧ y.toInt ≠ 126) : EI 1 rb F cd (p + 1) w U (upd eW p.toNat x) (upd eS p.toNat y) co cn := EI.mk9
  (r0 := h.r0)
  (f0 := h.f0)
  (f1 := h.f1)
  (p0 := by omega)
  (p1 := fun _ => by omega)
  (e0 := fun _ => by
      rw [pk_un (by omega)]
      exact h.e0 hp)
  (ew := by
      rw [show (p + 1).toNat = p.toNat + 1 by omega, cnE_snoc, ← h.ew]
      unfold wW
      rw [if_neg (by omega)]
      omega)
  (pb := by have := h.pb; omega)
  (c1 := fun _ => by
      have := h.c0 rfl
      have h6 := h.ew
      have h7 := cW_rg eW p.toNat
      omega)
  (c0 := fun q => absurd q (by omega))
  (pe := by
      rw [show (p + 1).toNat = p.toNat + 1 by omega]
      refine h.pe.snoc _ _ ?_
      unfold okE
      omega)
  (wf := h.wf)
  (hh := by
      rw [h.hh, show (p + 1).toNat = p.toNat + 1 by omega, cnE_snoc]
      have : wB x.toInt = 1 := by
        unfold wB
        rw [if_pos hx]
      omega)
theorem EI.close {rb F cd p w U : Int} {eW eS co cn : Nat → Int32} (h : EI 0 rb F cd p w U eW eS co cn) {w' : Int} (hp : 1 ≤ p) (hx : 5 < (eW (p.toNat - 1)).toInt) (hw' : ((eW (p.toNat - 1)).toInt = 6 ∧ w' = w - 1) ∨ ((eW (p.toNat - 1)).toInt ≠ 6 ∧ w' = w)) : 0 ≤ w' ∧ EI 0 rb F cd (p - 1) w' U eW eS co cn := by
  have hok := h.pe (p.toNat - 1) (by omega)
  have eW1 : w' = cnE wW eW (p.toNat - 1) := by
    have e1 := h.ew
    rw [cnE_pop (by omega)] at e1
    rcases hw' with ⟨q, q2⟩ | ⟨q, q2⟩
    · have : wW (eW (p.toNat - 1)).toInt = 1 := by
        unfold wW
        rw [if_pos (Or.inr q)]
      omega
    · have : wW (eW (p.toNat - 1)).toInt = 0 := by
        unfold wW
        rw [if_neg (by omega)]
      omega
  have hcw := cW_rg eW (p.toNat - 1)
  have eB := cnE_pop (w := wB) (e := eW) (n := p.toNat) (by omega)
  have a1 : wB (eW (p.toNat - 1)).toInt = 0 := by
    unfold wB
    rw [if_neg (by omega)]
  have h5 := h.pb
  have h8 := h.c0 rfl
  refine ⟨by omega, EI.mk9 h.r0 h.f0 h.f1 (by omega) (fun q => absurd q (by omega)) (fun q => h.e0 hp) ?_ (by omega) (fun q => absurd q (by omega)) (fun _ => by omega) ?_ h.wf ?_⟩
  · rw [show (p - 1).toNat = p.toNat - 1 by omega]
    exact eW1
  · rw [show (p - 1).toNat = p.toNat - 1 by omega]
    exact fun i hi => h.pe i (by omega)
  · rw [h.hh, show (p - 1).toNat = p.toNat - 1 by omega, eB]
    omega
theorem EI.init {rb F U : Int} {eW eS co cn : Nat → Int32} (hr : 0 ≤ rb) (h1 : 600 * rb ≤ F) (h2 : F ≤ 600 * rb + 9 * U) (hU : 0 ≤ U) {x y : Int32} (hx : x.toInt = 7) : EI 1 rb F F 1 0 U (upd eW 0 x) (upd eS 0 y) co cn := EI.mk9
  (r0 := hr)
  (f0 := h1)
  (f1 := Int.le_refl _)
  (p0 := by omega)
  (p1 := fun _ => by omega)
  (e0 := fun _ => by
      rw [pk_us]
      exact hx)
  (ew := by
      show (0 : Int) = 0 + wW (upd eW 0 x 0).toInt
      rw [pk_us]
      unfold wW
      rw [if_neg (by omega)]
      rfl)
  (pb := by omega)
  (c1 := fun _ => by omega)
  (c0 := fun q => absurd q (by omega))
  (pe := fun i hi => by
      obtain rfl : i = 0 := by omega
      rw [pk_us, pk_us]
      unfold okE
      omega)
  (wf := fun n hn => absurd hn (by omega))
  (hh := by
      rw [show F.toNat - F.toNat = 0 by omega]
      show (0 : Int) = 0 + wB (upd eW 0 x 0).toInt + 1 - 1
      rw [pk_us]
      unfold wB
      rw [if_neg (by omega)]
      rfl)
def OUT (F E : Int) (c d c' d' : Nat → Int32) : Prop := ∀ i : Nat, ((i : Int) < F ∨ E ≤ (i : Int)) → c' i = c i ∧ d' i = d i
theorem OUT.rf {F E : Int} {c d : Nat → Int32} : OUT F E c d c d := fun _ _ => ⟨rfl, rfl⟩
theorem OUT.tr {F E : Int} {c d c1 d1 c2 d2 : Nat → Int32} (h : OUT F E c d c1 d1) (h2 : OUT F E c1 d1 c2 d2) : OUT F E c d c2 d2 := fun i hi => ⟨(h2 i hi).1.trans (h i hi).1, (h2 i hi).2.trans (h i hi).2⟩
theorem OUT.w {F E : Int} {c d c1 d1 : Nat → Int32} (h : OUT F E c d c1 d1) {i : Nat} (x y : Int32) (hi : F ≤ (i : Int) ∧ (i : Int) < E) : OUT F E c d (upd c1 i x) (upd d1 i y) := fun j hj => by
  rw [pk_un (by omega), pk_un (by omega)]
  exact h j hj
theorem RIb.w24 {f : Nat → Nat → Int32} {b i : Nat} {x : Int32} (h : RIb f b) (ho : (i : Int) < 600 * b ∨ 600 * (b : Int) + 600 ≤ i) : RIb (va_up f 24 (upd (f 24) i x)) b := fun l hl => by
  obtain ⟨h1, h2, h3, h4⟩ := h l hl
  refine ⟨h1, h2, h3, wfr_cong (fun k hk1 hk2 => ⟨?_, rfl⟩) h4⟩
  replace hk1 : (f 19 (8 * b + l)).toInt.toNat ≤ k := hk1
  replace hk2 : k < (f 20 (8 * b + l)).toInt.toNat := hk2
  exact pk_un (by omega)
theorem RIb.w25 {f : Nat → Nat → Int32} {b i : Nat} {x : Int32} (h : RIb f b) (ho : (i : Int) < 600 * b ∨ 600 * (b : Int) + 600 ≤ i) : RIb (va_up f 25 (upd (f 25) i x)) b := fun l hl => by
  obtain ⟨h1, h2, h3, h4⟩ := h l hl
  refine ⟨h1, h2, h3, wfr_cong (fun k hk1 hk2 => ⟨rfl, ?_⟩) h4⟩
  replace hk1 : (f 19 (8 * b + l)).toInt.toNat ≤ k := hk1
  replace hk2 : k < (f 20 (8 * b + l)).toInt.toNat := hk2
  exact pk_un (by omega)
set_option maxHeartbeats 4000000 in
set_option maxRecDepth 100000 in
theorem m_emit (l : Launch) (G : va_G) (cy : Nat → ClassId) (sz : Nat) (mo : Nat) (h : Nat → Nat) (T : Int) (v : Nat → Int32) (nm : Int64) (f : Nat → Nat → Int32) (g : Nat → Nat → Int64) (n : Int32) (n2 : Int32) (cd : Int32) (hv : MIv T v) (hf : MIf f) (hR : RI v f) (hL : WL v f) (hcd : v 31 = cd) (hcr : 0 ≤ cd.toInt ∧ cd.toInt ≤ 1199) : Met l yX12_emit (.code yX12_emit cX12_emit 3 none :: TBg) ({ frames := 1, cells := 0, slots := 0, locals := 64 }) (va_Pc [.ref mo, .int n, .int n2] (En G cy (WMs cy mo h v nm f g) sz)) (va_Qv (fun (_ : Unit) => True) (fun _ t => Ex G (va_A (WMs cy mo h v nm f g) sz) (WMs cy mo h (va_up v 31 (cd + 1)) nm (va_up (va_up f 24 (upd (f 24) (Int32.toNatClampNeg cd) n)) 25 (upd ((va_up f 24 (upd (f 24) (Int32.toNatClampNeg cd) n)) 25) (Int32.toNatClampNeg cd) n2)) g) t) (va_A (WMs cy mo h v nm f g) sz)) 0 0 (va_A (WMs cy mo h v nm f g) sz) := by
  refine Met.ofW (cc := cX12_emit) (maxL := 3) (ret := none) (by decide) rfl ?_
  intro p e s m args below meth c s₁ B hml hv9
  obtain ⟨rfl, hsz, hP, hK, hD0, hN⟩ := hv9
  have hx := B.exec
  have hb := B.bytes
  have hr := B.returns
  have hts := atoms_spec (ws := .code yX12_emit cX12_emit 3 none :: TBg) B.pre
  have ht : ∀ w ∈ TBg, w.before _ s = true := fun w h => hts w (List.mem_cons_of_mem _ h)
  have hown : s.vm.findClass RX12 = some m.cls := findClass_of_methodNamed B.named
  have hlocks := B.notSynchronized
  subst hsz
  have hD := hD0.self (sz := s.heap.size)
  generalize hAe : va_A (WMs cy mo h v nm f g) s.heap.size = A at hD ⊢
  have hA : ∀ q : Nat, s.heap.size ≤ q → A q := fun q h => by rw [← hAe]; exact Or.inr h
  have hS : va_S A s.heap s.heap [] := va_S.rf
  have hl := lv_entry ([.ref mo, .int n, .int n2]) (n := 3) (Nat.le_of_ble_eq_true rfl)
  rw [lg_entry_eq]
  generalize (lg_sl ([.ref mo, .int n, .int n2]) ++ List.replicate (3 - (lg_sl ([.ref mo, .int n, .int n2])).length) Slot.unset).toArray = ls at hl ⊢
  have hl : lv_has ls 3 [(0, .ref mo), (1, .int n), (2, .int n2)] := hl
  have z0 : (1 : Int32).toInt = 1 := by decide
  rw [← hcd] at hcr
  refine lv_aload_n hx hb dX12_emit_0 rfl (lv_at hl 0 rfl) ?_
  refine mg_24 hx hb ht hown hK hP dX12_emit_1 ?_
  refine lv_aload_n hx hb dX12_emit_4 rfl (lv_at hl 0 rfl) ?_
  refine mg_31 hx hb ht hown hK hP dX12_emit_5 ?_
  have q_1 : 0 ≤ (v 31).toInt ∧ (v 31).toInt ≤ 1200 := hv 31
  refine lv_iload_n hx hb dX12_emit_8 rfl (lv_at hl 1 rfl) ?_
  have q_2 : vp_in (v 31) 1200 := vp_in_iff.mpr ⟨by omega, by omega⟩
  refine ms_24 hx hb hK hP hD hS q_2 dX12_emit_9 (fun H locs hP hD hS => ?_)
  have hf := MIf.up 24 (i := (Int32.toNatClampNeg (v 31))) hf (ow_any n)
  refine lv_aload_n hx hb dX12_emit_10 rfl (lv_at hl 0 rfl) ?_
  refine mg_25 hx hb ht hown hK hP dX12_emit_11 ?_
  refine lv_aload_n hx hb dX12_emit_14 rfl (lv_at hl 0 rfl) ?_
  refine mg_31 hx hb ht hown hK hP dX12_emit_15 ?_
  refine lv_iload_n hx hb dX12_emit_18 rfl (lv_at hl 2 rfl) ?_
  have q_3 : vp_in (v 31) 1200 := vp_in_iff.mpr ⟨by omega, by omega⟩
  refine ms_25 hx hb hK hP hD hS q_3 dX12_emit_19 (fun H locs hP hD hS => ?_)
  have hf := MIf.up 25 (i := (Int32.toNatClampNeg (v 31))) hf (ow_any n2)
  refine lv_aload_n hx hb dX12_emit_20 rfl (lv_at hl 0 rfl) ?_
  refine lv_dup hx hb dX12_emit_21 rfl ?_
  refine mg_31 hx hb ht hown hK hP dX12_emit_22 ?_
  refine lv_iconst (v := 1) hx hb dX12_emit_25 (by decide) ?_
  refine lv_iadd hx hb dX12_emit_26 ?_
  refine lv_topi (fun v_4 ev_4 => ?_)
  have q_5 : v_4.toInt = (v 31).toInt + (1 : Int32).toInt := ow_add ev_4 (by omega) (by omega)
  refine mp_31 hx hb ht hown hK hP hD hS dX12_emit_27 (fun H locs hP hD hS => ?_)
  have hv := MIv.up 31 hv (show 0 ≤ v_4.toInt ∧ v_4.toInt ≤ 1200 from by omega)
  refine W.widen (k := 0) (n := 0) (Nat.le_of_ble_eq_true rfl) (Nat.le_of_ble_eq_true rfl) ?_
  subst ev_4 hcd
  exact W.vret hx hb hr (fun t ht9 hW => ⟨⟨(), rfl, trivial, ⟨by rw [ht9]; exact hP, hD⟩⟩, hS.F ht9⟩) hS.2.2 dX12_emit_30
set_option maxHeartbeats 4000000 in
set_option maxRecDepth 100000 in
theorem m_pushE (l : Launch) (G : va_G) (cy : Nat → ClassId) (sz : Nat) (mo : Nat) (h : Nat → Nat) (T : Int) (v : Nat → Int32) (nm : Int64) (f : Nat → Nat → Int32) (g : Nat → Nat → Int64) (n : Int32) (n2 : Int32) (cd : Int32) (hv : MIv T v) (hf : MIf f) (hR : RI v f) (hL : WL v f) (hcd : v 33 = cd) (hcr : 0 ≤ cd.toInt ∧ cd.toInt ≤ 119) : Met l yX12_pushE (.code yX12_pushE cX12_pushE 3 none :: TBg) ({ frames := 1, cells := 0, slots := 0, locals := 64 }) (va_Pc [.ref mo, .int n, .int n2] (En G cy (WMs cy mo h v nm f g) sz)) (va_Qv (fun (_ : Unit) => True) (fun _ t => Ex G (va_A (WMs cy mo h v nm f g) sz) (WMs cy mo h (va_up v 33 (cd + 1)) nm (va_up (va_up f 26 (upd (f 26) (Int32.toNatClampNeg cd) n)) 27 (upd ((va_up f 26 (upd (f 26) (Int32.toNatClampNeg cd) n)) 27) (Int32.toNatClampNeg cd) n2)) g) t) (va_A (WMs cy mo h v nm f g) sz)) 0 0 (va_A (WMs cy mo h v nm f g) sz) := by
  refine Met.ofW (cc := cX12_pushE) (maxL := 3) (ret := none) (by decide) rfl ?_
  intro p e s m args below meth c s₁ B hml hv9
  obtain ⟨rfl, hsz, hP, hK, hD0, hN⟩ := hv9
  have hx := B.exec
  have hb := B.bytes
  have hr := B.returns
  have hts := atoms_spec (ws := .code yX12_pushE cX12_pushE 3 none :: TBg) B.pre
  have ht : ∀ w ∈ TBg, w.before _ s = true := fun w h => hts w (List.mem_cons_of_mem _ h)
  have hown : s.vm.findClass RX12 = some m.cls := findClass_of_methodNamed B.named
  have hlocks := B.notSynchronized
  subst hsz
  have hD := hD0.self (sz := s.heap.size)
  generalize hAe : va_A (WMs cy mo h v nm f g) s.heap.size = A at hD ⊢
  have hA : ∀ q : Nat, s.heap.size ≤ q → A q := fun q h => by rw [← hAe]; exact Or.inr h
  have hS : va_S A s.heap s.heap [] := va_S.rf
  have hl := lv_entry ([.ref mo, .int n, .int n2]) (n := 3) (Nat.le_of_ble_eq_true rfl)
  rw [lg_entry_eq]
  generalize (lg_sl ([.ref mo, .int n, .int n2]) ++ List.replicate (3 - (lg_sl ([.ref mo, .int n, .int n2])).length) Slot.unset).toArray = ls at hl ⊢
  have hl : lv_has ls 3 [(0, .ref mo), (1, .int n), (2, .int n2)] := hl
  have z0 : (1 : Int32).toInt = 1 := by decide
  rw [← hcd] at hcr
  refine lv_aload_n hx hb dX12_pushE_0 rfl (lv_at hl 0 rfl) ?_
  refine mg_26 hx hb ht hown hK hP dX12_pushE_1 ?_
  refine lv_aload_n hx hb dX12_pushE_4 rfl (lv_at hl 0 rfl) ?_
  refine mg_33 hx hb ht hown hK hP dX12_pushE_5 ?_
  have q_1 : 0 ≤ (v 33).toInt ∧ (v 33).toInt ≤ 120 := hv 33
  refine lv_iload_n hx hb dX12_pushE_8 rfl (lv_at hl 1 rfl) ?_
  have q_2 : vp_in (v 33) 120 := vp_in_iff.mpr ⟨by omega, by omega⟩
  refine ms_26 hx hb hK hP hD hS q_2 dX12_pushE_9 (fun H locs hP hD hS => ?_)
  have hf := MIf.up 26 (i := (Int32.toNatClampNeg (v 33))) hf (ow_any n)
  refine lv_aload_n hx hb dX12_pushE_10 rfl (lv_at hl 0 rfl) ?_
  refine mg_27 hx hb ht hown hK hP dX12_pushE_11 ?_
  refine lv_aload_n hx hb dX12_pushE_14 rfl (lv_at hl 0 rfl) ?_
  refine mg_33 hx hb ht hown hK hP dX12_pushE_15 ?_
  refine lv_iload_n hx hb dX12_pushE_18 rfl (lv_at hl 2 rfl) ?_
  have q_3 : vp_in (v 33) 120 := vp_in_iff.mpr ⟨by omega, by omega⟩
  refine ms_27 hx hb hK hP hD hS q_3 dX12_pushE_19 (fun H locs hP hD hS => ?_)
  have hf := MIf.up 27 (i := (Int32.toNatClampNeg (v 33))) hf (ow_any n2)
  refine lv_aload_n hx hb dX12_pushE_20 rfl (lv_at hl 0 rfl) ?_
  refine lv_dup hx hb dX12_pushE_21 rfl ?_
  refine mg_33 hx hb ht hown hK hP dX12_pushE_22 ?_
  refine lv_iconst (v := 1) hx hb dX12_pushE_25 (by decide) ?_
  refine lv_iadd hx hb dX12_pushE_26 ?_
  refine lv_topi (fun v_4 ev_4 => ?_)
  have q_5 : v_4.toInt = (v 33).toInt + (1 : Int32).toInt := ow_add ev_4 (by omega) (by omega)
  refine mp_33 hx hb ht hown hK hP hD hS dX12_pushE_27 (fun H locs hP hD hS => ?_)
  have hv := MIv.up 33 hv (show 0 ≤ v_4.toInt ∧ v_4.toInt ≤ 120 from by omega)
  refine W.widen (k := 0) (n := 0) (Nat.le_of_ble_eq_true rfl) (Nat.le_of_ble_eq_true rfl) ?_
  subst ev_4 hcd
  exact W.vret hx hb hr (fun t ht9 hW => ⟨⟨(), rfl, trivial, ⟨by rw [ht9]; exact hP, hD⟩⟩, hS.F ht9⟩) hS.2.2 dX12_pushE_30
