section LAWS
variable {p : Program} {e : Env} {s : State} {m : MethodId} {below : List Frame} {meth : Method} {c : Code} {b N9 : Nat} {xs : Nat → Int32} {G : va_G} {cy : Nat → ClassId} {x mo : Nat} {L : List Nat} {K : Nat → Nat} {h : Nat → Nat} {tq qq wq : Nat} {fo : Option Nat}
set_option maxHeartbeats 4000000 in
set_option maxRecDepth 100000 in
theorem law_16 (l : Launch) (hx : p.tables.exec = Jvm.exec) (hb : c.code = code) (hr : meth.sig.returnType = ret) (hml : c.maxLocals = 4) (hown : s.vm.findClass RL = some m.cls) (ht : ∀ w ∈ TBg, w.before #[Value.ref b] s = true) (hX : va_X b N9 xs s s.heap) (hbl : b < s.heap.size) (hlocks : meth.locks = false) (hK : va_K G vwCl (TY cy) s) (hN : NK s) (hXK : XK cy tq qq wq fo (fun q : Nat => s.heap.size ≤ q) s) (hx1 : x ∈ L) (hx2 : K x = 0) (hUX : ∀ z, K z = 0 → z = x) (hN9 : N9 ≤ 3072) {i : Int32} {T : Int} {H : Heap} {locs : List Loc} {ls : Array Slot} {cells slots : Nat} (hi0 : 0 ≤ i.toInt) (hi1 : i.toInt + 6 ≤ N9) (hT : 0 ≤ T ∧ T ≤ 100000) (hLI : LI G cy s L K mo h T H locs) (hc1 : cells + 1 ≤ room_1.cells ∧ slots + 11 ≤ room_1.slots) (hl : lv_has ls 4 [(3, .int i), (2, .ref mo), (1, .ref x), (0, .ref b)]) (kk : ∀ (T9 : Int) (H : Heap) (locs : List Loc), 0 ≤ T9 ∧ T9 ≤ 100000 → LI G cy s L K mo h T9 H locs → W p l e room_1 s m #[Value.ref b] below meth c H locs (cells + 1) (slots + 11) (lw_Z below #[Value.ref b] s) (F0 m 1211 ls [])) : W p l e room_1 s m #[Value.ref b] below meth c H locs cells slots (lw_Z below #[Value.ref b] s) (F0 m 758 ls []) := by
  obtain ⟨R, I, J, E, B, v, nm, f, g, hRT, hI, hE, hv, hf, hR, hL, hP, hD, hS⟩ := hLI
  have hA : ∀ q : Nat, s.heap.size ≤ q → (fun q : Nat => s.heap.size ≤ q) q := fun _ h => h
  have hbA : ¬ (fun q : Nat => s.heap.size ≤ q) b := Nat.not_le.mpr hbl
  have hc0 : cells + 0 ≤ room_1.cells ∧ slots + 0 ≤ room_1.slots := ⟨Nat.le_trans (Nat.le_add_right _ _) hc1.1, Nat.le_trans (Nat.le_add_right _ _) hc1.2⟩
  refine lv_aload_n hx hb dL_law_758 rfl (lv_at hl 2 rfl) ?_
  refine lv_aload_n hx hb dL_law_759 rfl (lv_at hl 3 rfl) ?_
  refine lv_iload_n hx hb dL_law_760 rfl (lv_at hl 0 rfl) ?_
  refine lv_iconst (v := 1) hx hb dL_law_761 (by decide) ?_
  refine lv_iadd hx hb dL_law_762 ?_
  refine lv_topi (fun w1 ew1 => ?_)
  have hw1 : vp_in w1 N9 := vi_in (k := 1) (by decide) ew1 (by omega) (by omega) hN9
  refine va_sld hx hb hX hbl hbA hS hw1 dL_law_763 ?_
  refine ow_top (xs (i + 1).toNatClampNeg) (by rw [ew1]) ?_
  skip
  refine lv_aload_n hx hb dL_law_764 rfl (lv_at hl 3 rfl) ?_
  refine lv_iload_n hx hb dL_law_765 rfl (lv_at hl 0 rfl) ?_
  refine lv_iconst (v := 2) hx hb dL_law_766 (by decide) ?_
  refine lv_iadd hx hb dL_law_767 ?_
  refine lv_topi (fun w2 ew2 => ?_)
  have hw2 : vp_in w2 N9 := vi_in (k := 2) (by decide) ew2 (by omega) (by omega) hN9
  refine va_sld hx hb hX hbl hbA hS hw2 dL_law_768 ?_
  refine ow_top (xs (i + 2).toNatClampNeg) (by rw [ew2]) ?_
  skip
  have hPD := fr_left hP hD
  have hFl := fr_leftF hD hS hA
  refine va_calli (va_runV (As := [.int (xs (i + 1).toNatClampNeg), .int (xs (i + 2).toNatClampNeg)]) (rest := []) ⟨hx, hb, hml, hown, ht⟩ (x_sing l G cy _ L K _ T _ _ _ _ x (xs (i + 1).toNatClampNeg) (xs (i + 2).toNatClampNeg) hRT hI hE hx1 hx2 ) (cwV 2 ht (gv k_983 k_984 k_985 k_521 k_982) rfl rfl rfl (by decide +kernel) ⟨Nat.le_of_ble_eq_true rfl, Nat.le_of_ble_eq_true rfl⟩) ⟨En.blind, cr_0 hK hPD.1 hx1 hx2, fun U hU hW => ⟨rfl, En.of hU hW hPD.1 hK hPD.2 hN⟩⟩ rfl rfl hl.1 rfl (lv_room (Nat.le_of_ble_eq_true rfl)) dL_law_769 hc0) hS (fun q _ h => hFl q h) hFl (fun r3 u4 t9 H locs ht9 hvm hw hB hz1 hk1 hS => ?_)
  refine W.widen (k := cells) (n := slots) (Nat.le_refl _) (Nat.le_refl _) ?_
  obtain ⟨hP1, hD1⟩ := hB
  rw [ht9] at hP1
  obtain ⟨hP, hD⟩ := fr_l hP hD hFl hk1 hP1 hD1
  have hI := hw.1
  have hE := hw.2.1
  clear hPD hFl hz1 hk1 hw ht9 hvm hP1 hD1
  refine lv_pop hx hb dL_law_772 rfl ?_
  refine lv_aload_n hx hb dL_law_773 rfl (lv_at hl 1 rfl) ?_
  refine lv_aload_n hx hb dL_law_774 rfl (lv_at hl 3 rfl) ?_
  refine lv_iload_n hx hb dL_law_775 rfl (lv_at hl 0 rfl) ?_
  refine lv_iconst (v := 1) hx hb dL_law_776 (by decide) ?_
  refine lv_iadd hx hb dL_law_777 ?_
  refine lv_topi (fun w5 ew5 => ?_)
  have hw5 : vp_in w5 N9 := vi_in (k := 1) (by decide) ew5 (by omega) (by omega) hN9
  refine va_sld hx hb hX hbl hbA hS hw5 dL_law_778 ?_
  refine ow_top (xs (i + 1).toNatClampNeg) (by rw [ew5]) ?_
  skip
  refine lv_aload_n hx hb dL_law_779 rfl (lv_at hl 3 rfl) ?_
  refine lv_iload_n hx hb dL_law_780 rfl (lv_at hl 0 rfl) ?_
  refine lv_iconst (v := 2) hx hb dL_law_781 (by decide) ?_
  refine lv_iadd hx hb dL_law_782 ?_
  refine lv_topi (fun w6 ew6 => ?_)
  have hw6 : vp_in w6 N9 := vi_in (k := 2) (by decide) ew6 (by omega) (by omega) hN9
  refine va_sld hx hb hX hbl hbA hS hw6 dL_law_783 ?_
  refine ow_top (xs (i + 2).toNatClampNeg) (by rw [ew6]) ?_
  skip
  have hPD := fr_left (fr_swP hP) (fr_swD hD)
  have hFl := fr_leftF (fr_swD hD) hS hA
  refine va_calli (va_runV (As := [.int (xs (i + 1).toNatClampNeg), .int (xs (i + 2).toNatClampNeg)]) (rest := []) ⟨hx, hb, hml, hown, ht⟩ (m_sing l G cy _ mo h T _ _ _ _ (xs (i + 1).toNatClampNeg) (xs (i + 2).toNatClampNeg) hv hf hR hL ) (cwV 2 ht (gv k_986 k_157 k_158 k_61 k_155) rfl rfl rfl (by decide +kernel) ⟨Nat.le_of_ble_eq_true rfl, Nat.le_of_ble_eq_true rfl⟩) ⟨En.blind, va_recv hK hPD.1 (ci := 12) (q0 := 0) rfl rfl, fun U hU hW => ⟨rfl, En.of hU hW hPD.1 hK hPD.2 hN⟩⟩ rfl rfl hl.1 rfl (lv_room (Nat.le_of_ble_eq_true rfl)) dL_law_784 hc0) hS (fun q _ h => hFl q h) hFl (fun r7 u8 t9 H locs ht9 hvm hw hB hz1 hk1 hS => ?_)
  refine W.widen (k := cells) (n := slots) (Nat.le_refl _) (Nat.le_refl _) ?_
  obtain ⟨hP1, hD1⟩ := hB
  rw [ht9] at hP1
  obtain ⟨hP, hD⟩ := fr_r hP hD hFl hk1 hP1 hD1
  have hv := hw.1
  have hf := hw.2.1
  have hR := hw.2.2.1
  have hL := hw.2.2.2.1
  clear hPD hFl hz1 hk1 hw ht9 hvm hP1 hD1
  refine lv_pop hx hb dL_law_787 rfl ?_
  refine lv_goto (tgt := 1211) hx hb dL_law_788 (by decide) ?_
  refine W.widen (k := cells + 1) (n := slots + 11) (by omega) (by omega) ?_
  exact kk T _ _ hT ⟨_, _, _, _, _, _, _, _, _, hRT, hI, hE, hv, hf, hR, hL, hP, hD, hS⟩
set_option maxHeartbeats 4000000 in
set_option maxRecDepth 100000 in
theorem law_17 (l : Launch) (hx : p.tables.exec = Jvm.exec) (hb : c.code = code) (hr : meth.sig.returnType = ret) (hml : c.maxLocals = 4) (hown : s.vm.findClass RL = some m.cls) (ht : ∀ w ∈ TBg, w.before #[Value.ref b] s = true) (hX : va_X b N9 xs s s.heap) (hbl : b < s.heap.size) (hlocks : meth.locks = false) (hK : va_K G vwCl (TY cy) s) (hN : NK s) (hXK : XK cy tq qq wq fo (fun q : Nat => s.heap.size ≤ q) s) (hx1 : x ∈ L) (hx2 : K x = 0) (hUX : ∀ z, K z = 0 → z = x) (hN9 : N9 ≤ 3072) {i : Int32} {T : Int} {H : Heap} {locs : List Loc} {ls : Array Slot} {cells slots : Nat} (hi0 : 0 ≤ i.toInt) (hi1 : i.toInt + 6 ≤ N9) (hT : 0 ≤ T ∧ T ≤ 100000) (hLI : LI G cy s L K mo h T H locs) (hc1 : cells + 1 ≤ room_1.cells ∧ slots + 11 ≤ room_1.slots) (hl : lv_has ls 4 [(3, .int i), (2, .ref mo), (1, .ref x), (0, .ref b)]) (kk : ∀ (T9 : Int) (H : Heap) (locs : List Loc), 0 ≤ T9 ∧ T9 ≤ 100000 → LI G cy s L K mo h T9 H locs → W p l e room_1 s m #[Value.ref b] below meth c H locs (cells + 1) (slots + 11) (lw_Z below #[Value.ref b] s) (F0 m 1211 ls [])) : W p l e room_1 s m #[Value.ref b] below meth c H locs cells slots (lw_Z below #[Value.ref b] s) (F0 m 791 ls []) := by
  obtain ⟨R, I, J, E, B, v, nm, f, g, hRT, hI, hE, hv, hf, hR, hL, hP, hD, hS⟩ := hLI
  have hA : ∀ q : Nat, s.heap.size ≤ q → (fun q : Nat => s.heap.size ≤ q) q := fun _ h => h
  have hbA : ¬ (fun q : Nat => s.heap.size ≤ q) b := Nat.not_le.mpr hbl
  have hc0 : cells + 0 ≤ room_1.cells ∧ slots + 0 ≤ room_1.slots := ⟨Nat.le_trans (Nat.le_add_right _ _) hc1.1, Nat.le_trans (Nat.le_add_right _ _) hc1.2⟩
  refine lv_aload_n hx hb dL_law_791 rfl (lv_at hl 2 rfl) ?_
  refine lv_aload_n hx hb dL_law_792 rfl (lv_at hl 3 rfl) ?_
  refine lv_iload_n hx hb dL_law_793 rfl (lv_at hl 0 rfl) ?_
  refine lv_iconst (v := 1) hx hb dL_law_794 (by decide) ?_
  refine lv_iadd hx hb dL_law_795 ?_
  refine lv_topi (fun w1 ew1 => ?_)
  have hw1 : vp_in w1 N9 := vi_in (k := 1) (by decide) ew1 (by omega) (by omega) hN9
  refine va_sld hx hb hX hbl hbA hS hw1 dL_law_796 ?_
  refine ow_top (xs (i + 1).toNatClampNeg) (by rw [ew1]) ?_
  skip
  refine lv_aload_n hx hb dL_law_797 rfl (lv_at hl 3 rfl) ?_
  refine lv_iload_n hx hb dL_law_798 rfl (lv_at hl 0 rfl) ?_
  refine lv_iconst (v := 2) hx hb dL_law_799 (by decide) ?_
  refine lv_iadd hx hb dL_law_800 ?_
  refine lv_topi (fun w2 ew2 => ?_)
  have hw2 : vp_in w2 N9 := vi_in (k := 2) (by decide) ew2 (by omega) (by omega) hN9
  refine va_sld hx hb hX hbl hbA hS hw2 dL_law_801 ?_
  refine ow_top (xs (i + 2).toNatClampNeg) (by rw [ew2]) ?_
  skip
  have hPD := fr_left hP hD
  have hFl := fr_leftF hD hS hA
  refine va_calli (va_runV (As := [.int (xs (i + 1).toNatClampNeg), .int (xs (i + 2).toNatClampNeg)]) (rest := []) ⟨hx, hb, hml, hown, ht⟩ (x_song l G cy _ L K _ T _ _ _ _ x (xs (i + 1).toNatClampNeg) (xs (i + 2).toNatClampNeg) hRT hI hE hx1 hx2 ) (cwV 2 ht (gv k_988 k_989 k_990 k_521 k_987) rfl rfl rfl (by decide +kernel) ⟨Nat.le_of_ble_eq_true rfl, Nat.le_of_ble_eq_true rfl⟩) ⟨En.blind, cr_0 hK hPD.1 hx1 hx2, fun U hU hW => ⟨rfl, En.of hU hW hPD.1 hK hPD.2 hN⟩⟩ rfl rfl hl.1 rfl (lv_room (Nat.le_of_ble_eq_true rfl)) dL_law_802 hc0) hS (fun q _ h => hFl q h) hFl (fun r3 u4 t9 H locs ht9 hvm hw hB hz1 hk1 hS => ?_)
  refine W.widen (k := cells) (n := slots) (Nat.le_refl _) (Nat.le_refl _) ?_
  obtain ⟨hP1, hD1⟩ := hB
  rw [ht9] at hP1
  obtain ⟨hP, hD⟩ := fr_l hP hD hFl hk1 hP1 hD1
  have hI := hw.1
  have hE := hw.2.1
  clear hPD hFl hz1 hk1 hw ht9 hvm hP1 hD1
  refine lv_pop hx hb dL_law_805 rfl ?_
  refine lv_aload_n hx hb dL_law_806 rfl (lv_at hl 1 rfl) ?_
  refine lv_aload_n hx hb dL_law_807 rfl (lv_at hl 3 rfl) ?_
  refine lv_iload_n hx hb dL_law_808 rfl (lv_at hl 0 rfl) ?_
  refine lv_iconst (v := 1) hx hb dL_law_809 (by decide) ?_
  refine lv_iadd hx hb dL_law_810 ?_
  refine lv_topi (fun w5 ew5 => ?_)
  have hw5 : vp_in w5 N9 := vi_in (k := 1) (by decide) ew5 (by omega) (by omega) hN9
  refine va_sld hx hb hX hbl hbA hS hw5 dL_law_811 ?_
  refine ow_top (xs (i + 1).toNatClampNeg) (by rw [ew5]) ?_
  skip
  refine lv_aload_n hx hb dL_law_812 rfl (lv_at hl 3 rfl) ?_
  refine lv_iload_n hx hb dL_law_813 rfl (lv_at hl 0 rfl) ?_
  refine lv_iconst (v := 2) hx hb dL_law_814 (by decide) ?_
  refine lv_iadd hx hb dL_law_815 ?_
  refine lv_topi (fun w6 ew6 => ?_)
  have hw6 : vp_in w6 N9 := vi_in (k := 2) (by decide) ew6 (by omega) (by omega) hN9
  refine va_sld hx hb hX hbl hbA hS hw6 dL_law_816 ?_
  refine ow_top (xs (i + 2).toNatClampNeg) (by rw [ew6]) ?_
  skip
  have hPD := fr_left (fr_swP hP) (fr_swD hD)
  have hFl := fr_leftF (fr_swD hD) hS hA
  refine va_calli (va_runV (As := [.int (xs (i + 1).toNatClampNeg), .int (xs (i + 2).toNatClampNeg)]) (rest := []) ⟨hx, hb, hml, hown, ht⟩ (m_song l G cy _ mo h T _ _ _ _ (xs (i + 1).toNatClampNeg) (xs (i + 2).toNatClampNeg) hv hf hR hL ) (cwV 2 ht (gv k_992 k_993 k_994 k_61 k_991) rfl rfl rfl (by decide +kernel) ⟨Nat.le_of_ble_eq_true rfl, Nat.le_of_ble_eq_true rfl⟩) ⟨En.blind, va_recv hK hPD.1 (ci := 12) (q0 := 0) rfl rfl, fun U hU hW => ⟨rfl, En.of hU hW hPD.1 hK hPD.2 hN⟩⟩ rfl rfl hl.1 rfl (lv_room (Nat.le_of_ble_eq_true rfl)) dL_law_817 hc0) hS (fun q _ h => hFl q h) hFl (fun r7 u8 t9 H locs ht9 hvm hw hB hz1 hk1 hS => ?_)
  refine W.widen (k := cells) (n := slots) (Nat.le_refl _) (Nat.le_refl _) ?_
  obtain ⟨hP1, hD1⟩ := hB
  rw [ht9] at hP1
  obtain ⟨hP, hD⟩ := fr_r hP hD hFl hk1 hP1 hD1
  have hv := hw.1
  have hf := hw.2.1
  have hR := hw.2.2.1
  have hL := hw.2.2.2.1
  clear hPD hFl hz1 hk1 hw ht9 hvm hP1 hD1
  refine lv_pop hx hb dL_law_820 rfl ?_
  refine lv_goto (tgt := 1211) hx hb dL_law_821 (by decide) ?_
  refine W.widen (k := cells + 1) (n := slots + 11) (by omega) (by omega) ?_
  exact kk T _ _ hT ⟨_, _, _, _, _, _, _, _, _, hRT, hI, hE, hv, hf, hR, hL, hP, hD, hS⟩
set_option maxHeartbeats 4000000 in
set_option maxRecDepth 100000 in
theorem law_18 (l : Launch) (hx : p.tables.exec = Jvm.exec) (hb : c.code = code) (hr : meth.sig.returnType = ret) (hml : c.maxLocals = 4) (hown : s.vm.findClass RL = some m.cls) (ht : ∀ w ∈ TBg, w.before #[Value.ref b] s = true) (hX : va_X b N9 xs s s.heap) (hbl : b < s.heap.size) (hlocks : meth.locks = false) (hK : va_K G vwCl (TY cy) s) (hN : NK s) (hXK : XK cy tq qq wq fo (fun q : Nat => s.heap.size ≤ q) s) (hx1 : x ∈ L) (hx2 : K x = 0) (hUX : ∀ z, K z = 0 → z = x) (hN9 : N9 ≤ 3072) {i : Int32} {T : Int} {H : Heap} {locs : List Loc} {ls : Array Slot} {cells slots : Nat} (hi0 : 0 ≤ i.toInt) (hi1 : i.toInt + 6 ≤ N9) (hT : 0 ≤ T ∧ T ≤ 100000) (hLI : LI G cy s L K mo h T H locs) (hc1 : cells + 1 ≤ room_1.cells ∧ slots + 11 ≤ room_1.slots) (hl : lv_has ls 4 [(3, .int i), (2, .ref mo), (1, .ref x), (0, .ref b)]) (kk : ∀ (T9 : Int) (H : Heap) (locs : List Loc), 0 ≤ T9 ∧ T9 ≤ 100000 → LI G cy s L K mo h T9 H locs → W p l e room_1 s m #[Value.ref b] below meth c H locs (cells + 1) (slots + 11) (lw_Z below #[Value.ref b] s) (F0 m 1211 ls [])) : W p l e room_1 s m #[Value.ref b] below meth c H locs cells slots (lw_Z below #[Value.ref b] s) (F0 m 824 ls []) := by
  obtain ⟨R, I, J, E, B, v, nm, f, g, hRT, hI, hE, hv, hf, hR, hL, hP, hD, hS⟩ := hLI
  have hA : ∀ q : Nat, s.heap.size ≤ q → (fun q : Nat => s.heap.size ≤ q) q := fun _ h => h
  have hbA : ¬ (fun q : Nat => s.heap.size ≤ q) b := Nat.not_le.mpr hbl
  have hc0 : cells + 0 ≤ room_1.cells ∧ slots + 0 ≤ room_1.slots := ⟨Nat.le_trans (Nat.le_add_right _ _) hc1.1, Nat.le_trans (Nat.le_add_right _ _) hc1.2⟩
  refine lv_aload_n hx hb dL_law_824 rfl (lv_at hl 2 rfl) ?_
  have hPD := fr_left hP hD
  have hFl := fr_leftF hD hS hA
  refine va_calli (va_runV (As := []) (rest := []) ⟨hx, hb, hml, hown, ht⟩ (x_silence l G cy _ L K _ T _ _ _ _ x  hRT hI hE hx1 hx2 ) (cwV 0 ht (gv k_996 k_997 k_998 k_521 k_995) rfl rfl rfl (by decide +kernel) ⟨Nat.le_of_ble_eq_true rfl, Nat.le_of_ble_eq_true rfl⟩) ⟨En.blind, cr_0 hK hPD.1 hx1 hx2, fun U hU hW => ⟨rfl, En.of hU hW hPD.1 hK hPD.2 hN⟩⟩ rfl rfl hl.1 rfl (lv_room (Nat.le_of_ble_eq_true rfl)) dL_law_825 hc0) hS (fun q _ h => hFl q h) hFl (fun r1 u2 t9 H locs ht9 hvm hw hB hz1 hk1 hS => ?_)
  refine W.widen (k := cells) (n := slots) (Nat.le_refl _) (Nat.le_refl _) ?_
  obtain ⟨hP1, hD1⟩ := hB
  rw [ht9] at hP1
  obtain ⟨hP, hD⟩ := fr_l hP hD hFl hk1 hP1 hD1
  have hI := hw.1
  have hE := hw.2.1
  clear hPD hFl hz1 hk1 hw ht9 hvm hP1 hD1
  refine lv_pop hx hb dL_law_828 rfl ?_
  refine lv_aload_n hx hb dL_law_829 rfl (lv_at hl 1 rfl) ?_
  have hPD := fr_left (fr_swP hP) (fr_swD hD)
  have hFl := fr_leftF (fr_swD hD) hS hA
  refine va_calli (va_runV (As := []) (rest := []) ⟨hx, hb, hml, hown, ht⟩ (m_silence l G cy _ mo h T _ _ _ _  hv hf hR hL ) (cwV 0 ht (gv k_1000 k_1001 k_1002 k_61 k_999) rfl rfl rfl (by decide +kernel) ⟨Nat.le_of_ble_eq_true rfl, Nat.le_of_ble_eq_true rfl⟩) ⟨En.blind, va_recv hK hPD.1 (ci := 12) (q0 := 0) rfl rfl, fun U hU hW => ⟨rfl, En.of hU hW hPD.1 hK hPD.2 hN⟩⟩ rfl rfl hl.1 rfl (lv_room (Nat.le_of_ble_eq_true rfl)) dL_law_830 hc0) hS (fun q _ h => hFl q h) hFl (fun r3 u4 t9 H locs ht9 hvm hw hB hz1 hk1 hS => ?_)
  refine W.widen (k := cells) (n := slots) (Nat.le_refl _) (Nat.le_refl _) ?_
  obtain ⟨hP1, hD1⟩ := hB
  rw [ht9] at hP1
  obtain ⟨hP, hD⟩ := fr_r hP hD hFl hk1 hP1 hD1
  have hv := hw.1
  have hf := hw.2.1
  have hR := hw.2.2.1
  have hL := hw.2.2.2.1
  clear hPD hFl hz1 hk1 hw ht9 hvm hP1 hD1
  refine lv_pop hx hb dL_law_833 rfl ?_
  refine lv_goto (tgt := 1211) hx hb dL_law_834 (by decide) ?_
  refine W.widen (k := cells + 1) (n := slots + 11) (by omega) (by omega) ?_
  exact kk T _ _ hT ⟨_, _, _, _, _, _, _, _, _, hRT, hI, hE, hv, hf, hR, hL, hP, hD, hS⟩
set_option maxHeartbeats 4000000 in
set_option maxRecDepth 100000 in
theorem law_19 (l : Launch) (hx : p.tables.exec = Jvm.exec) (hb : c.code = code) (hr : meth.sig.returnType = ret) (hml : c.maxLocals = 4) (hown : s.vm.findClass RL = some m.cls) (ht : ∀ w ∈ TBg, w.before #[Value.ref b] s = true) (hX : va_X b N9 xs s s.heap) (hbl : b < s.heap.size) (hlocks : meth.locks = false) (hK : va_K G vwCl (TY cy) s) (hN : NK s) (hXK : XK cy tq qq wq fo (fun q : Nat => s.heap.size ≤ q) s) (hx1 : x ∈ L) (hx2 : K x = 0) (hUX : ∀ z, K z = 0 → z = x) (hN9 : N9 ≤ 3072) {i : Int32} {T : Int} {H : Heap} {locs : List Loc} {ls : Array Slot} {cells slots : Nat} (hi0 : 0 ≤ i.toInt) (hi1 : i.toInt + 6 ≤ N9) (hT : 0 ≤ T ∧ T ≤ 100000) (hLI : LI G cy s L K mo h T H locs) (hc1 : cells + 1 ≤ room_1.cells ∧ slots + 11 ≤ room_1.slots) (hl : lv_has ls 4 [(3, .int i), (2, .ref mo), (1, .ref x), (0, .ref b)]) (kk : ∀ (T9 : Int) (H : Heap) (locs : List Loc), 0 ≤ T9 ∧ T9 ≤ 100000 → LI G cy s L K mo h T9 H locs → W p l e room_1 s m #[Value.ref b] below meth c H locs (cells + 1) (slots + 11) (lw_Z below #[Value.ref b] s) (F0 m 1211 ls [])) : W p l e room_1 s m #[Value.ref b] below meth c H locs cells slots (lw_Z below #[Value.ref b] s) (F0 m 837 ls []) := by
  obtain ⟨R, I, J, E, B, v, nm, f, g, hRT, hI, hE, hv, hf, hR, hL, hP, hD, hS⟩ := hLI
  have hA : ∀ q : Nat, s.heap.size ≤ q → (fun q : Nat => s.heap.size ≤ q) q := fun _ h => h
  have hbA : ¬ (fun q : Nat => s.heap.size ≤ q) b := Nat.not_le.mpr hbl
  have hc0 : cells + 0 ≤ room_1.cells ∧ slots + 0 ≤ room_1.slots := ⟨Nat.le_trans (Nat.le_add_right _ _) hc1.1, Nat.le_trans (Nat.le_add_right _ _) hc1.2⟩
  refine lv_aload_n hx hb dL_law_837 rfl (lv_at hl 2 rfl) ?_
  refine lv_aload_n hx hb dL_law_838 rfl (lv_at hl 3 rfl) ?_
  refine lv_iload_n hx hb dL_law_839 rfl (lv_at hl 0 rfl) ?_
  refine lv_iconst (v := 1) hx hb dL_law_840 (by decide) ?_
  refine lv_iadd hx hb dL_law_841 ?_
  refine lv_topi (fun w1 ew1 => ?_)
  have hw1 : vp_in w1 N9 := vi_in (k := 1) (by decide) ew1 (by omega) (by omega) hN9
  refine va_sld hx hb hX hbl hbA hS hw1 dL_law_842 ?_
  refine ow_top (xs (i + 1).toNatClampNeg) (by rw [ew1]) ?_
  skip
  have hPD := fr_left hP hD
  have hFl := fr_leftF hD hS hA
  refine va_calli (va_runV (As := [.int (xs (i + 1).toNatClampNeg)]) (rest := []) ⟨hx, hb, hml, hown, ht⟩ (x_shut l G cy _ L K _ T _ _ _ _ x (xs (i + 1).toNatClampNeg) hRT hI hE hx1 hx2 ) (cwV 1 ht (gv k_1004 k_1005 k_1006 k_521 k_1003) rfl rfl rfl (by decide +kernel) ⟨Nat.le_of_ble_eq_true rfl, Nat.le_of_ble_eq_true rfl⟩) ⟨En.blind, cr_0 hK hPD.1 hx1 hx2, fun U hU hW => ⟨rfl, En.of hU hW hPD.1 hK hPD.2 hN⟩⟩ rfl rfl hl.1 rfl (lv_room (Nat.le_of_ble_eq_true rfl)) dL_law_843 hc0) hS (fun q _ h => hFl q h) hFl (fun r2 u3 t9 H locs ht9 hvm hw hB hz1 hk1 hS => ?_)
  refine W.widen (k := cells) (n := slots) (Nat.le_refl _) (Nat.le_refl _) ?_
  obtain ⟨hP1, hD1⟩ := hB
  rw [ht9] at hP1
  obtain ⟨hP, hD⟩ := fr_l hP hD hFl hk1 hP1 hD1
  have hI := hw.1
  have hE := hw.2.1
  clear hPD hFl hz1 hk1 hw ht9 hvm hP1 hD1
  refine lv_pop hx hb dL_law_846 rfl ?_
  refine lv_aload_n hx hb dL_law_847 rfl (lv_at hl 1 rfl) ?_
  refine lv_aload_n hx hb dL_law_848 rfl (lv_at hl 3 rfl) ?_
  refine lv_iload_n hx hb dL_law_849 rfl (lv_at hl 0 rfl) ?_
  refine lv_iconst (v := 1) hx hb dL_law_850 (by decide) ?_
  refine lv_iadd hx hb dL_law_851 ?_
  refine lv_topi (fun w4 ew4 => ?_)
  have hw4 : vp_in w4 N9 := vi_in (k := 1) (by decide) ew4 (by omega) (by omega) hN9
  refine va_sld hx hb hX hbl hbA hS hw4 dL_law_852 ?_
  refine ow_top (xs (i + 1).toNatClampNeg) (by rw [ew4]) ?_
  skip
  have hPD := fr_left (fr_swP hP) (fr_swD hD)
  have hFl := fr_leftF (fr_swD hD) hS hA
  refine va_calli (va_runV (As := [.int (xs (i + 1).toNatClampNeg)]) (rest := []) ⟨hx, hb, hml, hown, ht⟩ (m_shut l G cy _ mo h T _ _ _ _ (xs (i + 1).toNatClampNeg) hv hf hR hL ) (cwV 1 ht (gv k_1008 k_1009 k_1010 k_61 k_1007) rfl rfl rfl (by decide +kernel) ⟨Nat.le_of_ble_eq_true rfl, Nat.le_of_ble_eq_true rfl⟩) ⟨En.blind, va_recv hK hPD.1 (ci := 12) (q0 := 0) rfl rfl, fun U hU hW => ⟨rfl, En.of hU hW hPD.1 hK hPD.2 hN⟩⟩ rfl rfl hl.1 rfl (lv_room (Nat.le_of_ble_eq_true rfl)) dL_law_853 hc0) hS (fun q _ h => hFl q h) hFl (fun r5 u6 t9 H locs ht9 hvm hw hB hz1 hk1 hS => ?_)
  refine W.widen (k := cells) (n := slots) (Nat.le_refl _) (Nat.le_refl _) ?_
  obtain ⟨hP1, hD1⟩ := hB
  rw [ht9] at hP1
  obtain ⟨hP, hD⟩ := fr_r hP hD hFl hk1 hP1 hD1
  have hv := hw.1
  have hf := hw.2.1
  have hR := hw.2.2.1
  have hL := hw.2.2.2.1
  clear hPD hFl hz1 hk1 hw ht9 hvm hP1 hD1
  refine lv_pop hx hb dL_law_856 rfl ?_
  refine lv_goto (tgt := 1211) hx hb dL_law_857 (by decide) ?_
  refine W.widen (k := cells + 1) (n := slots + 11) (by omega) (by omega) ?_
  exact kk T _ _ hT ⟨_, _, _, _, _, _, _, _, _, hRT, hI, hE, hv, hf, hR, hL, hP, hD, hS⟩
set_option maxHeartbeats 4000000 in
set_option maxRecDepth 100000 in
theorem law_20 (l : Launch) (hx : p.tables.exec = Jvm.exec) (hb : c.code = code) (hr : meth.sig.returnType = ret) (hml : c.maxLocals = 4) (hown : s.vm.findClass RL = some m.cls) (ht : ∀ w ∈ TBg, w.before #[Value.ref b] s = true) (hX : va_X b N9 xs s s.heap) (hbl : b < s.heap.size) (hlocks : meth.locks = false) (hK : va_K G vwCl (TY cy) s) (hN : NK s) (hXK : XK cy tq qq wq fo (fun q : Nat => s.heap.size ≤ q) s) (hx1 : x ∈ L) (hx2 : K x = 0) (hUX : ∀ z, K z = 0 → z = x) (hN9 : N9 ≤ 3072) {i : Int32} {T : Int} {H : Heap} {locs : List Loc} {ls : Array Slot} {cells slots : Nat} (hi0 : 0 ≤ i.toInt) (hi1 : i.toInt + 6 ≤ N9) (hT : 0 ≤ T ∧ T ≤ 100000) (hLI : LI G cy s L K mo h T H locs) (hc1 : cells + 1 ≤ room_1.cells ∧ slots + 11 ≤ room_1.slots) (hl : lv_has ls 4 [(3, .int i), (2, .ref mo), (1, .ref x), (0, .ref b)]) (kk : ∀ (T9 : Int) (H : Heap) (locs : List Loc), 0 ≤ T9 ∧ T9 ≤ 100000 → LI G cy s L K mo h T9 H locs → W p l e room_1 s m #[Value.ref b] below meth c H locs (cells + 1) (slots + 11) (lw_Z below #[Value.ref b] s) (F0 m 1211 ls [])) : W p l e room_1 s m #[Value.ref b] below meth c H locs cells slots (lw_Z below #[Value.ref b] s) (F0 m 860 ls []) := by
  obtain ⟨R, I, J, E, B, v, nm, f, g, hRT, hI, hE, hv, hf, hR, hL, hP, hD, hS⟩ := hLI
  have hA : ∀ q : Nat, s.heap.size ≤ q → (fun q : Nat => s.heap.size ≤ q) q := fun _ h => h
  have hbA : ¬ (fun q : Nat => s.heap.size ≤ q) b := Nat.not_le.mpr hbl
  have hc0 : cells + 0 ≤ room_1.cells ∧ slots + 0 ≤ room_1.slots := ⟨Nat.le_trans (Nat.le_add_right _ _) hc1.1, Nat.le_trans (Nat.le_add_right _ _) hc1.2⟩
  refine lv_aload_n hx hb dL_law_860 rfl (lv_at hl 2 rfl) ?_
  refine lv_aload_n hx hb dL_law_861 rfl (lv_at hl 3 rfl) ?_
  refine lv_iload_n hx hb dL_law_862 rfl (lv_at hl 0 rfl) ?_
  refine lv_iconst (v := 1) hx hb dL_law_863 (by decide) ?_
  refine lv_iadd hx hb dL_law_864 ?_
  refine lv_topi (fun w1 ew1 => ?_)
  have hw1 : vp_in w1 N9 := vi_in (k := 1) (by decide) ew1 (by omega) (by omega) hN9
  refine va_sld hx hb hX hbl hbA hS hw1 dL_law_865 ?_
  refine ow_top (xs (i + 1).toNatClampNeg) (by rw [ew1]) ?_
  skip
  have hj2 : ∀ bz3 : Int32, 0 ≤ bz3.toInt ∧ bz3.toInt ≤ 1 → W p l e room_1 s m #[Value.ref b] below meth c H locs cells slots (lw_Z below #[Value.ref b] s) (F0 m 874 ls [.int bz3, .ref x]) := by
    intro bz3 hbz3
    have hPD := fr_left hP hD
    have hFl := fr_leftF hD hS hA
    refine va_calli (va_runV (As := [.int bz3]) (rest := []) ⟨hx, hb, hml, hown, ht⟩ (x_night l G cy _ L K _ T _ _ _ _ x bz3 hRT hI hE hx1 hx2 hbz3) (cwV 1 ht (gv k_1012 k_1013 k_1014 k_521 k_1011) rfl rfl rfl (by decide +kernel) ⟨Nat.le_of_ble_eq_true rfl, Nat.le_of_ble_eq_true rfl⟩) ⟨En.blind, cr_0 hK hPD.1 hx1 hx2, fun U hU hW => ⟨rfl, En.of hU hW hPD.1 hK hPD.2 hN⟩⟩ rfl rfl hl.1 rfl (lv_room (Nat.le_of_ble_eq_true rfl)) dL_law_874 hc0) hS (fun q _ h => hFl q h) hFl (fun r4 u5 t9 H locs ht9 hvm hw hB hz1 hk1 hS => ?_)
    refine W.widen (k := cells) (n := slots) (Nat.le_refl _) (Nat.le_refl _) ?_
    obtain ⟨hP1, hD1⟩ := hB
    rw [ht9] at hP1
    obtain ⟨hP, hD⟩ := fr_l hP hD hFl hk1 hP1 hD1
    have hI := hw.1
    have hE := hw.2.1
    clear hPD hFl hz1 hk1 hw ht9 hvm hP1 hD1
    refine lv_pop hx hb dL_law_877 rfl ?_
    refine lv_aload_n hx hb dL_law_878 rfl (lv_at hl 1 rfl) ?_
    refine lv_aload_n hx hb dL_law_879 rfl (lv_at hl 3 rfl) ?_
    refine lv_iload_n hx hb dL_law_880 rfl (lv_at hl 0 rfl) ?_
    refine lv_iconst (v := 1) hx hb dL_law_881 (by decide) ?_
    refine lv_iadd hx hb dL_law_882 ?_
    refine lv_topi (fun w6 ew6 => ?_)
    have hw6 : vp_in w6 N9 := vi_in (k := 1) (by decide) ew6 (by omega) (by omega) hN9
    refine va_sld hx hb hX hbl hbA hS hw6 dL_law_883 ?_
    refine ow_top (xs (i + 1).toNatClampNeg) (by rw [ew6]) ?_
    skip
    have hj7 : ∀ bz8 : Int32, 0 ≤ bz8.toInt ∧ bz8.toInt ≤ 1 → W p l e room_1 s m #[Value.ref b] below meth c H locs cells slots (lw_Z below #[Value.ref b] s) (F0 m 892 ls [.int bz8, .ref mo]) := by
      intro bz8 hbz8
      have hPD := fr_left (fr_swP hP) (fr_swD hD)
      have hFl := fr_leftF (fr_swD hD) hS hA
      refine va_calli (va_runV (As := [.int bz8]) (rest := []) ⟨hx, hb, hml, hown, ht⟩ (m_night l G cy _ mo h T _ _ _ _ bz8 hv hf hR hL hbz8) (cwV 1 ht (gv k_1016 k_1017 k_1018 k_61 k_1015) rfl rfl rfl (by decide +kernel) ⟨Nat.le_of_ble_eq_true rfl, Nat.le_of_ble_eq_true rfl⟩) ⟨En.blind, va_recv hK hPD.1 (ci := 12) (q0 := 0) rfl rfl, fun U hU hW => ⟨rfl, En.of hU hW hPD.1 hK hPD.2 hN⟩⟩ rfl rfl hl.1 rfl (lv_room (Nat.le_of_ble_eq_true rfl)) dL_law_892 hc0) hS (fun q _ h => hFl q h) hFl (fun r9 u10 t9 H locs ht9 hvm hw hB hz1 hk1 hS => ?_)
      refine W.widen (k := cells) (n := slots) (Nat.le_refl _) (Nat.le_refl _) ?_
      obtain ⟨hP1, hD1⟩ := hB
      rw [ht9] at hP1
      obtain ⟨hP, hD⟩ := fr_r hP hD hFl hk1 hP1 hD1
      have hv := hw.1
      have hf := hw.2.1
      have hR := hw.2.2.1
      have hL := hw.2.2.2.1
      clear hPD hFl hz1 hk1 hw ht9 hvm hP1 hD1
      refine lv_pop hx hb dL_law_895 rfl ?_
      refine lv_goto (tgt := 1211) hx hb dL_law_896 (by decide) ?_
      refine W.widen (k := cells + 1) (n := slots + 11) (by omega) (by omega) ?_
      exact kk T _ _ hT ⟨_, _, _, _, _, _, _, _, _, hRT, hI, hE, hv, hf, hR, hL, hP, hD, hS⟩
    refine lv_if_eq (tgt := 891) hx hb dL_law_884 (by decide) (fun _ => ?_) (fun _ => ?_)
    · refine lv_iconst (v := 0) hx hb dL_law_891 (by decide) ?_
      exact hj7 0 (by decide)
    · refine lv_iconst (v := 1) hx hb dL_law_887 (by decide) ?_
      refine lv_goto (tgt := 892) hx hb dL_law_888 (by decide) ?_
      exact hj7 1 (by decide)
  refine lv_if_eq (tgt := 873) hx hb dL_law_866 (by decide) (fun _ => ?_) (fun _ => ?_)
  · refine lv_iconst (v := 0) hx hb dL_law_873 (by decide) ?_
    exact hj2 0 (by decide)
  · refine lv_iconst (v := 1) hx hb dL_law_869 (by decide) ?_
    refine lv_goto (tgt := 874) hx hb dL_law_870 (by decide) ?_
    exact hj2 1 (by decide)
set_option maxHeartbeats 4000000 in
set_option maxRecDepth 100000 in
theorem law_21 (l : Launch) (hx : p.tables.exec = Jvm.exec) (hb : c.code = code) (hr : meth.sig.returnType = ret) (hml : c.maxLocals = 4) (hown : s.vm.findClass RL = some m.cls) (ht : ∀ w ∈ TBg, w.before #[Value.ref b] s = true) (hX : va_X b N9 xs s s.heap) (hbl : b < s.heap.size) (hlocks : meth.locks = false) (hK : va_K G vwCl (TY cy) s) (hN : NK s) (hXK : XK cy tq qq wq fo (fun q : Nat => s.heap.size ≤ q) s) (hx1 : x ∈ L) (hx2 : K x = 0) (hUX : ∀ z, K z = 0 → z = x) (hN9 : N9 ≤ 3072) {i : Int32} {T : Int} {H : Heap} {locs : List Loc} {ls : Array Slot} {cells slots : Nat} (hi0 : 0 ≤ i.toInt) (hi1 : i.toInt + 6 ≤ N9) (hT : 0 ≤ T ∧ T ≤ 100000) (hLI : LI G cy s L K mo h T H locs) (hc1 : cells + 1 ≤ room_1.cells ∧ slots + 11 ≤ room_1.slots) (hl : lv_has ls 4 [(3, .int i), (2, .ref mo), (1, .ref x), (0, .ref b)]) (kk : ∀ (T9 : Int) (H : Heap) (locs : List Loc), 0 ≤ T9 ∧ T9 ≤ 100000 → LI G cy s L K mo h T9 H locs → W p l e room_1 s m #[Value.ref b] below meth c H locs (cells + 1) (slots + 11) (lw_Z below #[Value.ref b] s) (F0 m 1211 ls [])) : W p l e room_1 s m #[Value.ref b] below meth c H locs cells slots (lw_Z below #[Value.ref b] s) (F0 m 899 ls []) := by
  obtain ⟨R, I, J, E, B, v, nm, f, g, hRT, hI, hE, hv, hf, hR, hL, hP, hD, hS⟩ := hLI
  have hA : ∀ q : Nat, s.heap.size ≤ q → (fun q : Nat => s.heap.size ≤ q) q := fun _ h => h
  have hbA : ¬ (fun q : Nat => s.heap.size ≤ q) b := Nat.not_le.mpr hbl
  have hc0 : cells + 0 ≤ room_1.cells ∧ slots + 0 ≤ room_1.slots := ⟨Nat.le_trans (Nat.le_add_right _ _) hc1.1, Nat.le_trans (Nat.le_add_right _ _) hc1.2⟩
  refine lv_aload_n hx hb dL_law_899 rfl (lv_at hl 2 rfl) ?_
  refine lv_aload_n hx hb dL_law_900 rfl (lv_at hl 3 rfl) ?_
  refine lv_iload_n hx hb dL_law_901 rfl (lv_at hl 0 rfl) ?_
  refine lv_iconst (v := 1) hx hb dL_law_902 (by decide) ?_
  refine lv_iadd hx hb dL_law_903 ?_
  refine lv_topi (fun w1 ew1 => ?_)
  have hw1 : vp_in w1 N9 := vi_in (k := 1) (by decide) ew1 (by omega) (by omega) hN9
  refine va_sld hx hb hX hbl hbA hS hw1 dL_law_904 ?_
  refine ow_top (xs (i + 1).toNatClampNeg) (by rw [ew1]) ?_
  skip
  refine lv_aload_n hx hb dL_law_905 rfl (lv_at hl 3 rfl) ?_
  refine lv_iload_n hx hb dL_law_906 rfl (lv_at hl 0 rfl) ?_
  refine lv_iconst (v := 2) hx hb dL_law_907 (by decide) ?_
  refine lv_iadd hx hb dL_law_908 ?_
  refine lv_topi (fun w2 ew2 => ?_)
  have hw2 : vp_in w2 N9 := vi_in (k := 2) (by decide) ew2 (by omega) (by omega) hN9
  refine va_sld hx hb hX hbl hbA hS hw2 dL_law_909 ?_
  refine ow_top (xs (i + 2).toNatClampNeg) (by rw [ew2]) ?_
  skip
  have hPD := fr_left hP hD
  have hFl := fr_leftF hD hS hA
  have hFc := fr_new hS hA
  refine va_calli (va_runV (As := [.int (xs (i + 1).toNatClampNeg), .int (xs (i + 2).toNatClampNeg)]) (rest := []) ⟨hx, hb, hml, hown, ht⟩ (x_lock l G cy _ L K _ T _ _ _ _ x (xs (i + 1).toNatClampNeg) (xs (i + 2).toNatClampNeg) hRT hI hE hx1 hx2 ) (cwV 2 ht (gv k_1020 k_1021 k_1022 k_521 k_1019) rfl rfl rfl (by decide +kernel) ⟨Nat.le_of_ble_eq_true rfl, Nat.le_of_ble_eq_true rfl⟩) ⟨En.blind, cr_0 hK hPD.1 hx1 hx2, fun U hU hW => ⟨rfl, En.of hU hW hPD.1 hK hPD.2 hN⟩⟩ rfl rfl hl.1 rfl (lv_room (Nat.le_of_ble_eq_true rfl)) dL_law_910 hc0) hS (fun q _ h => hFc q h) hFc (fun r3 u4 t9 H locs ht9 hvm hw hB hz1 hk1 hS => ?_)
  refine W.widen (k := cells) (n := slots) (Nat.le_refl _) (Nat.le_refl _) ?_
  have hP := fr_keep hP hk1
  clear hPD hFl hz1 hk1 hw ht9 hvm hFc
  refine lv_pop hx hb dL_law_913 rfl ?_
  refine lv_aload_n hx hb dL_law_914 rfl (lv_at hl 1 rfl) ?_
  refine lv_aload_n hx hb dL_law_915 rfl (lv_at hl 3 rfl) ?_
  refine lv_iload_n hx hb dL_law_916 rfl (lv_at hl 0 rfl) ?_
  refine lv_iconst (v := 1) hx hb dL_law_917 (by decide) ?_
  refine lv_iadd hx hb dL_law_918 ?_
  refine lv_topi (fun w5 ew5 => ?_)
  have hw5 : vp_in w5 N9 := vi_in (k := 1) (by decide) ew5 (by omega) (by omega) hN9
  refine va_sld hx hb hX hbl hbA hS hw5 dL_law_919 ?_
  refine ow_top (xs (i + 1).toNatClampNeg) (by rw [ew5]) ?_
  skip
  refine lv_aload_n hx hb dL_law_920 rfl (lv_at hl 3 rfl) ?_
  refine lv_iload_n hx hb dL_law_921 rfl (lv_at hl 0 rfl) ?_
  refine lv_iconst (v := 2) hx hb dL_law_922 (by decide) ?_
  refine lv_iadd hx hb dL_law_923 ?_
  refine lv_topi (fun w6 ew6 => ?_)
  have hw6 : vp_in w6 N9 := vi_in (k := 2) (by decide) ew6 (by omega) (by omega) hN9
  refine va_sld hx hb hX hbl hbA hS hw6 dL_law_924 ?_
  refine ow_top (xs (i + 2).toNatClampNeg) (by rw [ew6]) ?_
  skip
  have hPD := fr_left (fr_swP hP) (fr_swD hD)
  have hFl := fr_leftF (fr_swD hD) hS hA
  have hFc := fr_new hS hA
  refine va_calli (va_runV (As := [.int (xs (i + 1).toNatClampNeg), .int (xs (i + 2).toNatClampNeg)]) (rest := []) ⟨hx, hb, hml, hown, ht⟩ (m_lock l G cy _ mo h T _ _ _ _ (xs (i + 1).toNatClampNeg) (xs (i + 2).toNatClampNeg) hv hf hR hL ) (cwV 2 ht (gv k_1024 k_1025 k_1026 k_61 k_1023) rfl rfl rfl (by decide +kernel) ⟨Nat.le_of_ble_eq_true rfl, Nat.le_of_ble_eq_true rfl⟩) ⟨En.blind, va_recv hK hPD.1 (ci := 12) (q0 := 0) rfl rfl, fun U hU hW => ⟨rfl, En.of hU hW hPD.1 hK hPD.2 hN⟩⟩ rfl rfl hl.1 rfl (lv_room (Nat.le_of_ble_eq_true rfl)) dL_law_925 hc0) hS (fun q _ h => hFc q h) hFc (fun r7 u8 t9 H locs ht9 hvm hw hB hz1 hk1 hS => ?_)
  refine W.widen (k := cells) (n := slots) (Nat.le_refl _) (Nat.le_refl _) ?_
  have hP := fr_keep hP hk1
  clear hPD hFl hz1 hk1 hw ht9 hvm hFc
  refine lv_pop hx hb dL_law_928 rfl ?_
  refine lv_goto (tgt := 1211) hx hb dL_law_929 (by decide) ?_
  refine W.widen (k := cells + 1) (n := slots + 11) (by omega) (by omega) ?_
  exact kk T _ _ hT ⟨_, _, _, _, _, _, _, _, _, hRT, hI, hE, hv, hf, hR, hL, hP, hD, hS⟩
set_option maxHeartbeats 4000000 in
set_option maxRecDepth 100000 in
theorem law_22 (l : Launch) (hx : p.tables.exec = Jvm.exec) (hb : c.code = code) (hr : meth.sig.returnType = ret) (hml : c.maxLocals = 4) (hown : s.vm.findClass RL = some m.cls) (ht : ∀ w ∈ TBg, w.before #[Value.ref b] s = true) (hX : va_X b N9 xs s s.heap) (hbl : b < s.heap.size) (hlocks : meth.locks = false) (hK : va_K G vwCl (TY cy) s) (hN : NK s) (hXK : XK cy tq qq wq fo (fun q : Nat => s.heap.size ≤ q) s) (hx1 : x ∈ L) (hx2 : K x = 0) (hUX : ∀ z, K z = 0 → z = x) (hN9 : N9 ≤ 3072) {i : Int32} {T : Int} {H : Heap} {locs : List Loc} {ls : Array Slot} {cells slots : Nat} (hi0 : 0 ≤ i.toInt) (hi1 : i.toInt + 6 ≤ N9) (hT : 0 ≤ T ∧ T ≤ 100000) (hLI : LI G cy s L K mo h T H locs) (hc1 : cells + 1 ≤ room_1.cells ∧ slots + 11 ≤ room_1.slots) (hl : lv_has ls 4 [(3, .int i), (2, .ref mo), (1, .ref x), (0, .ref b)]) (kk : ∀ (T9 : Int) (H : Heap) (locs : List Loc), 0 ≤ T9 ∧ T9 ≤ 100000 → LI G cy s L K mo h T9 H locs → W p l e room_1 s m #[Value.ref b] below meth c H locs (cells + 1) (slots + 11) (lw_Z below #[Value.ref b] s) (F0 m 1211 ls [])) : W p l e room_1 s m #[Value.ref b] below meth c H locs cells slots (lw_Z below #[Value.ref b] s) (F0 m 932 ls []) := by
  obtain ⟨R, I, J, E, B, v, nm, f, g, hRT, hI, hE, hv, hf, hR, hL, hP, hD, hS⟩ := hLI
  have hA : ∀ q : Nat, s.heap.size ≤ q → (fun q : Nat => s.heap.size ≤ q) q := fun _ h => h
  have hbA : ¬ (fun q : Nat => s.heap.size ≤ q) b := Nat.not_le.mpr hbl
  have hc0 : cells + 0 ≤ room_1.cells ∧ slots + 0 ≤ room_1.slots := ⟨Nat.le_trans (Nat.le_add_right _ _) hc1.1, Nat.le_trans (Nat.le_add_right _ _) hc1.2⟩
  refine lv_aload_n hx hb dL_law_932 rfl (lv_at hl 2 rfl) ?_
  refine lv_aload_n hx hb dL_law_933 rfl (lv_at hl 3 rfl) ?_
  refine lv_iload_n hx hb dL_law_934 rfl (lv_at hl 0 rfl) ?_
  refine lv_iconst (v := 1) hx hb dL_law_935 (by decide) ?_
  refine lv_iadd hx hb dL_law_936 ?_
  refine lv_topi (fun w1 ew1 => ?_)
  have hw1 : vp_in w1 N9 := vi_in (k := 1) (by decide) ew1 (by omega) (by omega) hN9
  refine va_sld hx hb hX hbl hbA hS hw1 dL_law_937 ?_
  refine ow_top (xs (i + 1).toNatClampNeg) (by rw [ew1]) ?_
  skip
  refine lv_aload_n hx hb dL_law_938 rfl (lv_at hl 3 rfl) ?_
  refine lv_iload_n hx hb dL_law_939 rfl (lv_at hl 0 rfl) ?_
  refine lv_iconst (v := 2) hx hb dL_law_940 (by decide) ?_
  refine lv_iadd hx hb dL_law_941 ?_
  refine lv_topi (fun w2 ew2 => ?_)
  have hw2 : vp_in w2 N9 := vi_in (k := 2) (by decide) ew2 (by omega) (by omega) hN9
  refine va_sld hx hb hX hbl hbA hS hw2 dL_law_942 ?_
  refine ow_top (xs (i + 2).toNatClampNeg) (by rw [ew2]) ?_
  skip
  have hPD := fr_left hP hD
  have hFl := fr_leftF hD hS hA
  have hFc := fr_new hS hA
  refine va_calli (va_runV (As := [.int (xs (i + 1).toNatClampNeg), .int (xs (i + 2).toNatClampNeg)]) (rest := []) ⟨hx, hb, hml, hown, ht⟩ (x_heard l G cy _ L K _ T _ _ _ _ x (xs (i + 1).toNatClampNeg) (xs (i + 2).toNatClampNeg) hRT hI hE hx1 hx2 ) (cwV 2 ht (gv k_1028 k_1029 k_1030 k_521 k_1027) rfl rfl rfl (by decide +kernel) ⟨Nat.le_of_ble_eq_true rfl, Nat.le_of_ble_eq_true rfl⟩) ⟨En.blind, cr_0 hK hPD.1 hx1 hx2, fun U hU hW => ⟨rfl, En.of hU hW hPD.1 hK hPD.2 hN⟩⟩ rfl rfl hl.1 rfl (lv_room (Nat.le_of_ble_eq_true rfl)) dL_law_943 hc0) hS (fun q _ h => hFc q h) hFc (fun r3 u4 t9 H locs ht9 hvm hw hB hz1 hk1 hS => ?_)
  refine W.widen (k := cells) (n := slots) (Nat.le_refl _) (Nat.le_refl _) ?_
  have hP := fr_keep hP hk1
  clear hPD hFl hz1 hk1 hw ht9 hvm hFc
  refine lv_pop hx hb dL_law_946 rfl ?_
  refine lv_aload_n hx hb dL_law_947 rfl (lv_at hl 1 rfl) ?_
  refine lv_aload_n hx hb dL_law_948 rfl (lv_at hl 3 rfl) ?_
  refine lv_iload_n hx hb dL_law_949 rfl (lv_at hl 0 rfl) ?_
  refine lv_iconst (v := 1) hx hb dL_law_950 (by decide) ?_
  refine lv_iadd hx hb dL_law_951 ?_
  refine lv_topi (fun w5 ew5 => ?_)
  have hw5 : vp_in w5 N9 := vi_in (k := 1) (by decide) ew5 (by omega) (by omega) hN9
  refine va_sld hx hb hX hbl hbA hS hw5 dL_law_952 ?_
  refine ow_top (xs (i + 1).toNatClampNeg) (by rw [ew5]) ?_
  skip
  refine lv_aload_n hx hb dL_law_953 rfl (lv_at hl 3 rfl) ?_
  refine lv_iload_n hx hb dL_law_954 rfl (lv_at hl 0 rfl) ?_
  refine lv_iconst (v := 2) hx hb dL_law_955 (by decide) ?_
  refine lv_iadd hx hb dL_law_956 ?_
  refine lv_topi (fun w6 ew6 => ?_)
  have hw6 : vp_in w6 N9 := vi_in (k := 2) (by decide) ew6 (by omega) (by omega) hN9
  refine va_sld hx hb hX hbl hbA hS hw6 dL_law_957 ?_
  refine ow_top (xs (i + 2).toNatClampNeg) (by rw [ew6]) ?_
  skip
  have hPD := fr_left (fr_swP hP) (fr_swD hD)
  have hFl := fr_leftF (fr_swD hD) hS hA
  have hFc := fr_new hS hA
  refine va_calli (va_runV (As := [.int (xs (i + 1).toNatClampNeg), .int (xs (i + 2).toNatClampNeg)]) (rest := []) ⟨hx, hb, hml, hown, ht⟩ (m_heard l G cy _ mo h T _ _ _ _ (xs (i + 1).toNatClampNeg) (xs (i + 2).toNatClampNeg) hv hf hR hL ) (cwV 2 ht (gv k_1032 k_1033 k_1034 k_61 k_1031) rfl rfl rfl (by decide +kernel) ⟨Nat.le_of_ble_eq_true rfl, Nat.le_of_ble_eq_true rfl⟩) ⟨En.blind, va_recv hK hPD.1 (ci := 12) (q0 := 0) rfl rfl, fun U hU hW => ⟨rfl, En.of hU hW hPD.1 hK hPD.2 hN⟩⟩ rfl rfl hl.1 rfl (lv_room (Nat.le_of_ble_eq_true rfl)) dL_law_958 hc0) hS (fun q _ h => hFc q h) hFc (fun r7 u8 t9 H locs ht9 hvm hw hB hz1 hk1 hS => ?_)
  refine W.widen (k := cells) (n := slots) (Nat.le_refl _) (Nat.le_refl _) ?_
  have hP := fr_keep hP hk1
  clear hPD hFl hz1 hk1 hw ht9 hvm hFc
  refine lv_pop hx hb dL_law_961 rfl ?_
  refine lv_goto (tgt := 1211) hx hb dL_law_962 (by decide) ?_
  refine W.widen (k := cells + 1) (n := slots + 11) (by omega) (by omega) ?_
  exact kk T _ _ hT ⟨_, _, _, _, _, _, _, _, _, hRT, hI, hE, hv, hf, hR, hL, hP, hD, hS⟩
set_option maxHeartbeats 4000000 in
set_option maxRecDepth 100000 in
theorem law_23 (l : Launch) (hx : p.tables.exec = Jvm.exec) (hb : c.code = code) (hr : meth.sig.returnType = ret) (hml : c.maxLocals = 4) (hown : s.vm.findClass RL = some m.cls) (ht : ∀ w ∈ TBg, w.before #[Value.ref b] s = true) (hX : va_X b N9 xs s s.heap) (hbl : b < s.heap.size) (hlocks : meth.locks = false) (hK : va_K G vwCl (TY cy) s) (hN : NK s) (hXK : XK cy tq qq wq fo (fun q : Nat => s.heap.size ≤ q) s) (hx1 : x ∈ L) (hx2 : K x = 0) (hUX : ∀ z, K z = 0 → z = x) (hN9 : N9 ≤ 3072) {i : Int32} {T : Int} {H : Heap} {locs : List Loc} {ls : Array Slot} {cells slots : Nat} (hi0 : 0 ≤ i.toInt) (hi1 : i.toInt + 6 ≤ N9) (hT : 0 ≤ T ∧ T ≤ 100000) (hLI : LI G cy s L K mo h T H locs) (hc1 : cells + 1 ≤ room_1.cells ∧ slots + 11 ≤ room_1.slots) (hl : lv_has ls 4 [(3, .int i), (2, .ref mo), (1, .ref x), (0, .ref b)]) (kk : ∀ (T9 : Int) (H : Heap) (locs : List Loc), 0 ≤ T9 ∧ T9 ≤ 100000 → LI G cy s L K mo h T9 H locs → W p l e room_1 s m #[Value.ref b] below meth c H locs (cells + 1) (slots + 11) (lw_Z below #[Value.ref b] s) (F0 m 1211 ls [])) : W p l e room_1 s m #[Value.ref b] below meth c H locs cells slots (lw_Z below #[Value.ref b] s) (F0 m 965 ls []) := by
  obtain ⟨R, I, J, E, B, v, nm, f, g, hRT, hI, hE, hv, hf, hR, hL, hP, hD, hS⟩ := hLI
  have hA : ∀ q : Nat, s.heap.size ≤ q → (fun q : Nat => s.heap.size ≤ q) q := fun _ h => h
  have hbA : ¬ (fun q : Nat => s.heap.size ≤ q) b := Nat.not_le.mpr hbl
  have hc0 : cells + 0 ≤ room_1.cells ∧ slots + 0 ≤ room_1.slots := ⟨Nat.le_trans (Nat.le_add_right _ _) hc1.1, Nat.le_trans (Nat.le_add_right _ _) hc1.2⟩
  refine lv_aload_n hx hb dL_law_965 rfl (lv_at hl 2 rfl) ?_
  refine lv_aload_n hx hb dL_law_966 rfl (lv_at hl 3 rfl) ?_
  refine lv_iload_n hx hb dL_law_967 rfl (lv_at hl 0 rfl) ?_
  refine lv_iconst (v := 1) hx hb dL_law_968 (by decide) ?_
  refine lv_iadd hx hb dL_law_969 ?_
  refine lv_topi (fun w1 ew1 => ?_)
  have hw1 : vp_in w1 N9 := vi_in (k := 1) (by decide) ew1 (by omega) (by omega) hN9
  refine va_sld hx hb hX hbl hbA hS hw1 dL_law_970 ?_
  refine ow_top (xs (i + 1).toNatClampNeg) (by rw [ew1]) ?_
  skip
  refine lv_aload_n hx hb dL_law_971 rfl (lv_at hl 3 rfl) ?_
  refine lv_iload_n hx hb dL_law_972 rfl (lv_at hl 0 rfl) ?_
  refine lv_iconst (v := 2) hx hb dL_law_973 (by decide) ?_
  refine lv_iadd hx hb dL_law_974 ?_
  refine lv_topi (fun w2 ew2 => ?_)
  have hw2 : vp_in w2 N9 := vi_in (k := 2) (by decide) ew2 (by omega) (by omega) hN9
  refine va_sld hx hb hX hbl hbA hS hw2 dL_law_975 ?_
  refine ow_top (xs (i + 2).toNatClampNeg) (by rw [ew2]) ?_
  skip
  have hj3 : ∀ bz4 : Int32, 0 ≤ bz4.toInt ∧ bz4.toInt ≤ 1 → W p l e room_1 s m #[Value.ref b] below meth c H locs cells slots (lw_Z below #[Value.ref b] s) (F0 m 984 ls [.int bz4, .int (xs (i + 1).toNatClampNeg), .ref x]) := by
    intro bz4 hbz4
    refine lv_aload_n hx hb dL_law_984 rfl (lv_at hl 3 rfl) ?_
    refine lv_iload_n hx hb dL_law_985 rfl (lv_at hl 0 rfl) ?_
    refine lv_iconst (v := 3) hx hb dL_law_986 (by decide) ?_
    refine lv_iadd hx hb dL_law_987 ?_
    refine lv_topi (fun w5 ew5 => ?_)
    have hw5 : vp_in w5 N9 := vi_in (k := 3) (by decide) ew5 (by omega) (by omega) hN9
    refine va_sld hx hb hX hbl hbA hS hw5 dL_law_988 ?_
    refine ow_top (xs (i + 3).toNatClampNeg) (by rw [ew5]) ?_
    skip
    have hj6 : ∀ bz7 : Int32, 0 ≤ bz7.toInt ∧ bz7.toInt ≤ 1 → W p l e room_1 s m #[Value.ref b] below meth c H locs cells slots (lw_Z below #[Value.ref b] s) (F0 m 997 ls [.int bz7, .int bz4, .int (xs (i + 1).toNatClampNeg), .ref x]) := by
      intro bz7 hbz7
      have hPD := fr_left hP hD
      have hFl := fr_leftF hD hS hA
      refine va_calli (va_runV (As := [.int (xs (i + 1).toNatClampNeg), .int bz4, .int bz7]) (rest := []) ⟨hx, hb, hml, hown, ht⟩ (x_watch l G cy _ L K _ T _ _ _ _ x (xs (i + 1).toNatClampNeg) bz4 bz7 hRT hI hE hx1 hx2 hbz4 hbz7) (cwV 3 ht (gv k_1036 k_1037 k_1038 k_521 k_1035) rfl rfl rfl (by decide +kernel) ⟨Nat.le_of_ble_eq_true rfl, Nat.le_of_ble_eq_true rfl⟩) ⟨En.blind, cr_0 hK hPD.1 hx1 hx2, fun U hU hW => ⟨rfl, En.of hU hW hPD.1 hK hPD.2 hN⟩⟩ rfl rfl hl.1 rfl (lv_room (Nat.le_of_ble_eq_true rfl)) dL_law_997 hc0) hS (fun q _ h => hFl q h) hFl (fun r8 u9 t9 H locs ht9 hvm hw hB hz1 hk1 hS => ?_)
      refine W.widen (k := cells) (n := slots) (Nat.le_refl _) (Nat.le_refl _) ?_
      obtain ⟨hP1, hD1⟩ := hB
      rw [ht9] at hP1
      obtain ⟨hP, hD⟩ := fr_l hP hD hFl hk1 hP1 hD1
      have hI := hw.1
      have hE := hw.2.1
      clear hPD hFl hz1 hk1 hw ht9 hvm hP1 hD1
      refine lv_pop hx hb dL_law_1000 rfl ?_
      refine lv_aload_n hx hb dL_law_1001 rfl (lv_at hl 1 rfl) ?_
      refine lv_aload_n hx hb dL_law_1002 rfl (lv_at hl 3 rfl) ?_
      refine lv_iload_n hx hb dL_law_1003 rfl (lv_at hl 0 rfl) ?_
      refine lv_iconst (v := 1) hx hb dL_law_1004 (by decide) ?_
      refine lv_iadd hx hb dL_law_1005 ?_
      refine lv_topi (fun w10 ew10 => ?_)
      have hw10 : vp_in w10 N9 := vi_in (k := 1) (by decide) ew10 (by omega) (by omega) hN9
      refine va_sld hx hb hX hbl hbA hS hw10 dL_law_1006 ?_
      refine ow_top (xs (i + 1).toNatClampNeg) (by rw [ew10]) ?_
      skip
      refine lv_aload_n hx hb dL_law_1007 rfl (lv_at hl 3 rfl) ?_
      refine lv_iload_n hx hb dL_law_1008 rfl (lv_at hl 0 rfl) ?_
      refine lv_iconst (v := 2) hx hb dL_law_1009 (by decide) ?_
      refine lv_iadd hx hb dL_law_1010 ?_
      refine lv_topi (fun w11 ew11 => ?_)
      have hw11 : vp_in w11 N9 := vi_in (k := 2) (by decide) ew11 (by omega) (by omega) hN9
      refine va_sld hx hb hX hbl hbA hS hw11 dL_law_1011 ?_
      refine ow_top (xs (i + 2).toNatClampNeg) (by rw [ew11]) ?_
      skip
      have hj12 : ∀ bz13 : Int32, 0 ≤ bz13.toInt ∧ bz13.toInt ≤ 1 → W p l e room_1 s m #[Value.ref b] below meth c H locs cells slots (lw_Z below #[Value.ref b] s) (F0 m 1020 ls [.int bz13, .int (xs (i + 1).toNatClampNeg), .ref mo]) := by
        intro bz13 hbz13
        refine lv_aload_n hx hb dL_law_1020 rfl (lv_at hl 3 rfl) ?_
        refine lv_iload_n hx hb dL_law_1021 rfl (lv_at hl 0 rfl) ?_
        refine lv_iconst (v := 3) hx hb dL_law_1022 (by decide) ?_
        refine lv_iadd hx hb dL_law_1023 ?_
        refine lv_topi (fun w14 ew14 => ?_)
        have hw14 : vp_in w14 N9 := vi_in (k := 3) (by decide) ew14 (by omega) (by omega) hN9
        refine va_sld hx hb hX hbl hbA hS hw14 dL_law_1024 ?_
        refine ow_top (xs (i + 3).toNatClampNeg) (by rw [ew14]) ?_
        skip
        have hj15 : ∀ bz16 : Int32, 0 ≤ bz16.toInt ∧ bz16.toInt ≤ 1 → W p l e room_1 s m #[Value.ref b] below meth c H locs cells slots (lw_Z below #[Value.ref b] s) (F0 m 1033 ls [.int bz16, .int bz13, .int (xs (i + 1).toNatClampNeg), .ref mo]) := by
          intro bz16 hbz16
          have hPD := fr_left (fr_swP hP) (fr_swD hD)
          have hFl := fr_leftF (fr_swD hD) hS hA
          refine va_calli (va_runV (As := [.int (xs (i + 1).toNatClampNeg), .int bz13, .int bz16]) (rest := []) ⟨hx, hb, hml, hown, ht⟩ (m_watch l G cy _ mo h T _ _ _ _ (xs (i + 1).toNatClampNeg) bz13 bz16 hv hf hR hL hbz13 hbz16) (cwV 3 ht (gv k_1040 k_1041 k_1042 k_61 k_1039) rfl rfl rfl (by decide +kernel) ⟨Nat.le_of_ble_eq_true rfl, Nat.le_of_ble_eq_true rfl⟩) ⟨En.blind, va_recv hK hPD.1 (ci := 12) (q0 := 0) rfl rfl, fun U hU hW => ⟨rfl, En.of hU hW hPD.1 hK hPD.2 hN⟩⟩ rfl rfl hl.1 rfl (lv_room (Nat.le_of_ble_eq_true rfl)) dL_law_1033 hc0) hS (fun q _ h => hFl q h) hFl (fun r17 u18 t9 H locs ht9 hvm hw hB hz1 hk1 hS => ?_)
          refine W.widen (k := cells) (n := slots) (Nat.le_refl _) (Nat.le_refl _) ?_
          obtain ⟨hP1, hD1⟩ := hB
          rw [ht9] at hP1
          obtain ⟨hP, hD⟩ := fr_r hP hD hFl hk1 hP1 hD1
          have hv := hw.1
          have hf := hw.2.1
          have hR := hw.2.2.1
          have hL := hw.2.2.2.1
          clear hPD hFl hz1 hk1 hw ht9 hvm hP1 hD1
          refine lv_pop hx hb dL_law_1036 rfl ?_
          refine lv_goto (tgt := 1211) hx hb dL_law_1037 (by decide) ?_
          refine W.widen (k := cells + 1) (n := slots + 11) (by omega) (by omega) ?_
          exact kk T _ _ hT ⟨_, _, _, _, _, _, _, _, _, hRT, hI, hE, hv, hf, hR, hL, hP, hD, hS⟩
        refine lv_if_eq (tgt := 1032) hx hb dL_law_1025 (by decide) (fun _ => ?_) (fun _ => ?_)
        · refine lv_iconst (v := 0) hx hb dL_law_1032 (by decide) ?_
          exact hj15 0 (by decide)
        · refine lv_iconst (v := 1) hx hb dL_law_1028 (by decide) ?_
          refine lv_goto (tgt := 1033) hx hb dL_law_1029 (by decide) ?_
          exact hj15 1 (by decide)
      refine lv_if_eq (tgt := 1019) hx hb dL_law_1012 (by decide) (fun _ => ?_) (fun _ => ?_)
      · refine lv_iconst (v := 0) hx hb dL_law_1019 (by decide) ?_
        exact hj12 0 (by decide)
      · refine lv_iconst (v := 1) hx hb dL_law_1015 (by decide) ?_
        refine lv_goto (tgt := 1020) hx hb dL_law_1016 (by decide) ?_
        exact hj12 1 (by decide)
    refine lv_if_eq (tgt := 996) hx hb dL_law_989 (by decide) (fun _ => ?_) (fun _ => ?_)
    · refine lv_iconst (v := 0) hx hb dL_law_996 (by decide) ?_
      exact hj6 0 (by decide)
    · refine lv_iconst (v := 1) hx hb dL_law_992 (by decide) ?_
      refine lv_goto (tgt := 997) hx hb dL_law_993 (by decide) ?_
      exact hj6 1 (by decide)
  refine lv_if_eq (tgt := 983) hx hb dL_law_976 (by decide) (fun _ => ?_) (fun _ => ?_)
  · refine lv_iconst (v := 0) hx hb dL_law_983 (by decide) ?_
    exact hj3 0 (by decide)
  · refine lv_iconst (v := 1) hx hb dL_law_979 (by decide) ?_
    refine lv_goto (tgt := 984) hx hb dL_law_980 (by decide) ?_
    exact hj3 1 (by decide)
end LAWS
