section LAWS
variable {p : Program} {e : Env} {s : State} {m : MethodId} {below : List Frame} {meth : Method} {c : Code} {b N9 : Nat} {xs : Nat → Int32} {G : va_G} {cy : Nat → ClassId} {x mo : Nat} {L : List Nat} {K : Nat → Nat} {h : Nat → Nat} {tq qq wq : Nat} {fo : Option Nat}
set_option maxHeartbeats 4000000 in
set_option maxRecDepth 100000 in
theorem law_24 (l : Launch) (hx : p.tables.exec = Jvm.exec) (hb : c.code = code) (hr : meth.sig.returnType = ret) (hml : c.maxLocals = 4) (hown : s.vm.findClass RL = some m.cls) (ht : ∀ w ∈ TBg, w.before #[Value.ref b] s = true) (hX : va_X b N9 xs s s.heap) (hbl : b < s.heap.size) (hlocks : meth.locks = false) (hK : va_K G vwCl (TY cy) s) (hN : NK s) (hXK : XK cy tq qq wq fo (fun q : Nat => s.heap.size ≤ q) s) (hx1 : x ∈ L) (hx2 : K x = 0) (hUX : ∀ z, K z = 0 → z = x) (hN9 : N9 ≤ 3072) {i : Int32} {T : Int} {H : Heap} {locs : List Loc} {ls : Array Slot} {cells slots : Nat} (hi0 : 0 ≤ i.toInt) (hi1 : i.toInt + 6 ≤ N9) (hT : 0 ≤ T ∧ T ≤ 100000) (hLI : LI G cy s L K mo h T H locs) (hc1 : cells + 1 ≤ room_1.cells ∧ slots + 11 ≤ room_1.slots) (hl : lv_has ls 4 [(3, .int i), (2, .ref mo), (1, .ref x), (0, .ref b)]) (kk : ∀ (T9 : Int) (H : Heap) (locs : List Loc), 0 ≤ T9 ∧ T9 ≤ 100000 → LI G cy s L K mo h T9 H locs → W p l e room_1 s m #[Value.ref b] below meth c H locs (cells + 1) (slots + 11) (lw_Z below #[Value.ref b] s) (F0 m 1211 ls [])) : W p l e room_1 s m #[Value.ref b] below meth c H locs cells slots (lw_Z below #[Value.ref b] s) (F0 m 1040 ls []) := by
  obtain ⟨R, I, J, E, B, v, nm, f, g, hRT, hI, hE, hv, hf, hR, hL, hP, hD, hS⟩ := hLI
  have hA : ∀ q : Nat, s.heap.size ≤ q → (fun q : Nat => s.heap.size ≤ q) q := fun _ h => h
  have hbA : ¬ (fun q : Nat => s.heap.size ≤ q) b := Nat.not_le.mpr hbl
  have hc0 : cells + 0 ≤ room_1.cells ∧ slots + 0 ≤ room_1.slots := ⟨Nat.le_trans (Nat.le_add_right _ _) hc1.1, Nat.le_trans (Nat.le_add_right _ _) hc1.2⟩
  refine lv_aload_n hx hb dL_law_1040 rfl (lv_at hl 2 rfl) ?_
  refine lv_aload_n hx hb dL_law_1041 rfl (lv_at hl 3 rfl) ?_
  refine lv_iload_n hx hb dL_law_1042 rfl (lv_at hl 0 rfl) ?_
  refine lv_iconst (v := 1) hx hb dL_law_1043 (by decide) ?_
  refine lv_iadd hx hb dL_law_1044 ?_
  refine lv_topi (fun w1 ew1 => ?_)
  have hw1 : vp_in w1 N9 := vi_in (k := 1) (by decide) ew1 (by omega) (by omega) hN9
  refine va_sld hx hb hX hbl hbA hS hw1 dL_law_1045 ?_
  refine ow_top (xs (i + 1).toNatClampNeg) (by rw [ew1]) ?_
  skip
  have hPD := fr_left hP hD
  have hFl := fr_leftF hD hS hA
  refine va_calli (va_runV (As := [.int (xs (i + 1).toNatClampNeg)]) (rest := []) ⟨hx, hb, hml, hown, ht⟩ (x_untell l G cy _ L K _ T _ _ _ _ x (xs (i + 1).toNatClampNeg) hRT hI hE hx1 hx2 ) (cwV 1 ht (gv k_1044 k_1045 k_1046 k_521 k_1043) rfl rfl rfl (by decide +kernel) ⟨Nat.le_of_ble_eq_true rfl, Nat.le_of_ble_eq_true rfl⟩) ⟨En.blind, cr_0 hK hPD.1 hx1 hx2, fun U hU hW => ⟨rfl, En.of hU hW hPD.1 hK hPD.2 hN⟩⟩ rfl rfl hl.1 rfl (lv_room (Nat.le_of_ble_eq_true rfl)) dL_law_1046 hc0) hS (fun q _ h => hFl q h) hFl (fun r2 u3 t9 H locs ht9 hvm hw hB hz1 hk1 hS => ?_)
  refine W.widen (k := cells) (n := slots) (Nat.le_refl _) (Nat.le_refl _) ?_
  obtain ⟨hP1, hD1⟩ := hB
  rw [ht9] at hP1
  obtain ⟨hP, hD⟩ := fr_l hP hD hFl hk1 hP1 hD1
  have hI := hw.1
  have hE := hw.2.1
  clear hPD hFl hz1 hk1 hw ht9 hvm hP1 hD1
  refine lv_pop hx hb dL_law_1049 rfl ?_
  refine lv_aload_n hx hb dL_law_1050 rfl (lv_at hl 1 rfl) ?_
  refine lv_aload_n hx hb dL_law_1051 rfl (lv_at hl 3 rfl) ?_
  refine lv_iload_n hx hb dL_law_1052 rfl (lv_at hl 0 rfl) ?_
  refine lv_iconst (v := 1) hx hb dL_law_1053 (by decide) ?_
  refine lv_iadd hx hb dL_law_1054 ?_
  refine lv_topi (fun w4 ew4 => ?_)
  have hw4 : vp_in w4 N9 := vi_in (k := 1) (by decide) ew4 (by omega) (by omega) hN9
  refine va_sld hx hb hX hbl hbA hS hw4 dL_law_1055 ?_
  refine ow_top (xs (i + 1).toNatClampNeg) (by rw [ew4]) ?_
  skip
  have hPD := fr_left (fr_swP hP) (fr_swD hD)
  have hFl := fr_leftF (fr_swD hD) hS hA
  refine va_calli (va_runV (As := [.int (xs (i + 1).toNatClampNeg)]) (rest := []) ⟨hx, hb, hml, hown, ht⟩ (m_untell l G cy _ mo h T _ _ _ _ (xs (i + 1).toNatClampNeg) hv hf hR hL ) (cwV 1 ht (gv k_1048 k_1049 k_1050 k_61 k_1047) rfl rfl rfl (by decide +kernel) ⟨Nat.le_of_ble_eq_true rfl, Nat.le_of_ble_eq_true rfl⟩) ⟨En.blind, va_recv hK hPD.1 (ci := 12) (q0 := 0) rfl rfl, fun U hU hW => ⟨rfl, En.of hU hW hPD.1 hK hPD.2 hN⟩⟩ rfl rfl hl.1 rfl (lv_room (Nat.le_of_ble_eq_true rfl)) dL_law_1056 hc0) hS (fun q _ h => hFl q h) hFl (fun r5 u6 t9 H locs ht9 hvm hw hB hz1 hk1 hS => ?_)
  refine W.widen (k := cells) (n := slots) (Nat.le_refl _) (Nat.le_refl _) ?_
  obtain ⟨hP1, hD1⟩ := hB
  rw [ht9] at hP1
  obtain ⟨hP, hD⟩ := fr_r hP hD hFl hk1 hP1 hD1
  have hv := hw.1
  have hf := hw.2.1
  have hR := hw.2.2.1
  have hL := hw.2.2.2.1
  clear hPD hFl hz1 hk1 hw ht9 hvm hP1 hD1
  refine lv_pop hx hb dL_law_1059 rfl ?_
  refine lv_goto (tgt := 1211) hx hb dL_law_1060 (by decide) ?_
  refine W.widen (k := cells + 1) (n := slots + 11) (by omega) (by omega) ?_
  exact kk T _ _ hT ⟨_, _, _, _, _, _, _, _, _, hRT, hI, hE, hv, hf, hR, hL, hP, hD, hS⟩
set_option maxHeartbeats 4000000 in
set_option maxRecDepth 100000 in
theorem law_25 (l : Launch) (hx : p.tables.exec = Jvm.exec) (hb : c.code = code) (hr : meth.sig.returnType = ret) (hml : c.maxLocals = 4) (hown : s.vm.findClass RL = some m.cls) (ht : ∀ w ∈ TBg, w.before #[Value.ref b] s = true) (hX : va_X b N9 xs s s.heap) (hbl : b < s.heap.size) (hlocks : meth.locks = false) (hK : va_K G vwCl (TY cy) s) (hN : NK s) (hXK : XK cy tq qq wq fo (fun q : Nat => s.heap.size ≤ q) s) (hx1 : x ∈ L) (hx2 : K x = 0) (hUX : ∀ z, K z = 0 → z = x) (hN9 : N9 ≤ 3072) {i : Int32} {T : Int} {H : Heap} {locs : List Loc} {ls : Array Slot} {cells slots : Nat} (hi0 : 0 ≤ i.toInt) (hi1 : i.toInt + 6 ≤ N9) (hT : 0 ≤ T ∧ T ≤ 100000) (hLI : LI G cy s L K mo h T H locs) (hc1 : cells + 1 ≤ room_1.cells ∧ slots + 11 ≤ room_1.slots) (hl : lv_has ls 4 [(3, .int i), (2, .ref mo), (1, .ref x), (0, .ref b)]) (kk : ∀ (T9 : Int) (H : Heap) (locs : List Loc), 0 ≤ T9 ∧ T9 ≤ 100000 → LI G cy s L K mo h T9 H locs → W p l e room_1 s m #[Value.ref b] below meth c H locs (cells + 1) (slots + 11) (lw_Z below #[Value.ref b] s) (F0 m 1211 ls [])) : W p l e room_1 s m #[Value.ref b] below meth c H locs cells slots (lw_Z below #[Value.ref b] s) (F0 m 1063 ls []) := by
  obtain ⟨R, I, J, E, B, v, nm, f, g, hRT, hI, hE, hv, hf, hR, hL, hP, hD, hS⟩ := hLI
  have hA : ∀ q : Nat, s.heap.size ≤ q → (fun q : Nat => s.heap.size ≤ q) q := fun _ h => h
  have hbA : ¬ (fun q : Nat => s.heap.size ≤ q) b := Nat.not_le.mpr hbl
  have hc0 : cells + 0 ≤ room_1.cells ∧ slots + 0 ≤ room_1.slots := ⟨Nat.le_trans (Nat.le_add_right _ _) hc1.1, Nat.le_trans (Nat.le_add_right _ _) hc1.2⟩
  refine lv_aload_n hx hb dL_law_1063 rfl (lv_at hl 2 rfl) ?_
  refine lv_aload_n hx hb dL_law_1064 rfl (lv_at hl 3 rfl) ?_
  refine lv_iload_n hx hb dL_law_1065 rfl (lv_at hl 0 rfl) ?_
  refine lv_iconst (v := 1) hx hb dL_law_1066 (by decide) ?_
  refine lv_iadd hx hb dL_law_1067 ?_
  refine lv_topi (fun w1 ew1 => ?_)
  have hw1 : vp_in w1 N9 := vi_in (k := 1) (by decide) ew1 (by omega) (by omega) hN9
  refine va_sld hx hb hX hbl hbA hS hw1 dL_law_1068 ?_
  refine ow_top (xs (i + 1).toNatClampNeg) (by rw [ew1]) ?_
  skip
  have hPD := fr_left hP hD
  have hFl := fr_leftF hD hS hA
  refine va_calli (va_runV (As := [.int (xs (i + 1).toNatClampNeg)]) (rest := []) ⟨hx, hb, hml, hown, ht⟩ (x_later l G cy _ L K _ T _ _ _ _ x (xs (i + 1).toNatClampNeg) hRT hI hE hUX hT hx1 hx2 ) (cwV 1 ht (gv k_1052 k_1053 k_1054 k_521 k_1051) rfl rfl rfl (by decide +kernel) ⟨Nat.le_of_ble_eq_true rfl, Nat.le_of_ble_eq_true rfl⟩) ⟨En.blind, cr_0 hK hPD.1 hx1 hx2, fun U hU hW => ⟨rfl, En.of hU hW hPD.1 hK hPD.2 hN⟩⟩ rfl rfl hl.1 rfl (lv_room (Nat.le_of_ble_eq_true rfl)) dL_law_1069 hc0) hS (fun q _ h => hFl q h) hFl (fun r2 u3 t9 H locs ht9 hvm hw hB hz1 hk1 hS => ?_)
  refine W.widen (k := cells) (n := slots) (Nat.le_refl _) (Nat.le_refl _) ?_
  obtain ⟨hP1, hD1⟩ := hB
  rw [ht9] at hP1
  obtain ⟨hP, hD⟩ := fr_l hP hD hFl hk1 hP1 hD1
  have hI := hw.1
  have hE := hw.2.1
  have hr2 := hw.2.2.2
  clear hPD hFl hz1 hk1 hw ht9 hvm hP1 hD1
  refine lv_aload_n hx hb dL_law_1072 rfl (lv_at hl 1 rfl) ?_
  refine lv_aload_n hx hb dL_law_1073 rfl (lv_at hl 3 rfl) ?_
  refine lv_iload_n hx hb dL_law_1074 rfl (lv_at hl 0 rfl) ?_
  refine lv_iconst (v := 1) hx hb dL_law_1075 (by decide) ?_
  refine lv_iadd hx hb dL_law_1076 ?_
  refine lv_topi (fun w4 ew4 => ?_)
  have hw4 : vp_in w4 N9 := vi_in (k := 1) (by decide) ew4 (by omega) (by omega) hN9
  refine va_sld hx hb hX hbl hbA hS hw4 dL_law_1077 ?_
  refine ow_top (xs (i + 1).toNatClampNeg) (by rw [ew4]) ?_
  skip
  have hPD := fr_left (fr_swP hP) (fr_swD hD)
  have hFl := fr_leftF (fr_swD hD) hS hA
  refine va_calli (va_runV (As := [.int (xs (i + 1).toNatClampNeg)]) (rest := [.int r2]) ⟨hx, hb, hml, hown, ht⟩ (m_later l G cy _ mo h T _ _ _ _ (xs (i + 1).toNatClampNeg) hv hf hR hL hT) (cwV 1 ht (gv k_1056 k_1057 k_1058 k_61 k_1055) rfl rfl rfl (by decide +kernel) ⟨Nat.le_of_ble_eq_true rfl, Nat.le_of_ble_eq_true rfl⟩) ⟨En.blind, va_recv hK hPD.1 (ci := 12) (q0 := 0) rfl rfl, fun U hU hW => ⟨rfl, En.of hU hW hPD.1 hK hPD.2 hN⟩⟩ rfl rfl hl.1 rfl (lv_room (Nat.le_of_ble_eq_true rfl)) dL_law_1078 hc0) hS (fun q _ h => hFl q h) hFl (fun r5 u6 t9 H locs ht9 hvm hw hB hz1 hk1 hS => ?_)
  refine W.widen (k := cells) (n := slots) (Nat.le_refl _) (Nat.le_refl _) ?_
  obtain ⟨hP1, hD1⟩ := hB
  rw [ht9] at hP1
  obtain ⟨hP, hD⟩ := fr_r hP hD hFl hk1 hP1 hD1
  have hv := hw.1
  have hf := hw.2.1
  have hR := hw.2.2.1
  have hL := hw.2.2.2.1
  have hr5 := hw.2.2.2.2
  clear hPD hFl hz1 hk1 hw ht9 hvm hP1 hD1
  refine lv_icmp_eq (tgt := 1211) hx hb dL_law_1081 (by decide) (fun _ => ?_) (fun c9 => absurd ((ow_eq _ _).mpr (hr2.trans hr5.symm)) c9)
  refine W.widen (k := cells + 1) (n := slots + 11) (by omega) (by omega) ?_
  exact kk (spT T (xs (i + 1).toNatClampNeg).toInt) _ _ (spT_in hT) ⟨_, _, _, _, _, _, _, _, _, hRT, hI, hE, hv, hf, hR, hL, hP, hD, hS⟩
set_option maxHeartbeats 4000000 in
set_option maxRecDepth 100000 in
theorem law_26 (l : Launch) (hx : p.tables.exec = Jvm.exec) (hb : c.code = code) (hr : meth.sig.returnType = ret) (hml : c.maxLocals = 4) (hown : s.vm.findClass RL = some m.cls) (ht : ∀ w ∈ TBg, w.before #[Value.ref b] s = true) (hX : va_X b N9 xs s s.heap) (hbl : b < s.heap.size) (hlocks : meth.locks = false) (hK : va_K G vwCl (TY cy) s) (hN : NK s) (hXK : XK cy tq qq wq fo (fun q : Nat => s.heap.size ≤ q) s) (hx1 : x ∈ L) (hx2 : K x = 0) (hUX : ∀ z, K z = 0 → z = x) (hN9 : N9 ≤ 3072) {i : Int32} {T : Int} {H : Heap} {locs : List Loc} {ls : Array Slot} {cells slots : Nat} (hi0 : 0 ≤ i.toInt) (hi1 : i.toInt + 6 ≤ N9) (hT : 0 ≤ T ∧ T ≤ 100000) (hLI : LI G cy s L K mo h T H locs) (hc1 : cells + 1 ≤ room_1.cells ∧ slots + 11 ≤ room_1.slots) (hl : lv_has ls 4 [(3, .int i), (2, .ref mo), (1, .ref x), (0, .ref b)]) (kk : ∀ (T9 : Int) (H : Heap) (locs : List Loc), 0 ≤ T9 ∧ T9 ≤ 100000 → LI G cy s L K mo h T9 H locs → W p l e room_1 s m #[Value.ref b] below meth c H locs (cells + 1) (slots + 11) (lw_Z below #[Value.ref b] s) (F0 m 1211 ls [])) : W p l e room_1 s m #[Value.ref b] below meth c H locs cells slots (lw_Z below #[Value.ref b] s) (F0 m 1086 ls []) := by
  obtain ⟨R, I, J, E, B, v, nm, f, g, hRT, hI, hE, hv, hf, hR, hL, hP, hD, hS⟩ := hLI
  have hA : ∀ q : Nat, s.heap.size ≤ q → (fun q : Nat => s.heap.size ≤ q) q := fun _ h => h
  have hbA : ¬ (fun q : Nat => s.heap.size ≤ q) b := Nat.not_le.mpr hbl
  have hc0 : cells + 0 ≤ room_1.cells ∧ slots + 0 ≤ room_1.slots := ⟨Nat.le_trans (Nat.le_add_right _ _) hc1.1, Nat.le_trans (Nat.le_add_right _ _) hc1.2⟩
  refine lv_aload_n hx hb dL_law_1086 rfl (lv_at hl 2 rfl) ?_
  refine lv_aload_n hx hb dL_law_1087 rfl (lv_at hl 3 rfl) ?_
  refine lv_iload_n hx hb dL_law_1088 rfl (lv_at hl 0 rfl) ?_
  refine lv_iconst (v := 1) hx hb dL_law_1089 (by decide) ?_
  refine lv_iadd hx hb dL_law_1090 ?_
  refine lv_topi (fun w1 ew1 => ?_)
  have hw1 : vp_in w1 N9 := vi_in (k := 1) (by decide) ew1 (by omega) (by omega) hN9
  refine va_sld hx hb hX hbl hbA hS hw1 dL_law_1091 ?_
  refine ow_top (xs (i + 1).toNatClampNeg) (by rw [ew1]) ?_
  skip
  have hPD := fr_left hP hD
  have hFl := fr_leftF hD hS hA
  have hFc := fr_new hS hA
  refine va_calli (va_runV (As := [.int (xs (i + 1).toNatClampNeg)]) (rest := []) ⟨hx, hb, hml, hown, ht⟩ (x_left l G cy _ L K _ T _ _ _ _ x (xs (i + 1).toNatClampNeg) hRT hI hE hx1 hx2 ) (cwV 1 ht (gv k_1060 k_1061 k_1062 k_521 k_1059) rfl rfl rfl (by decide +kernel) ⟨Nat.le_of_ble_eq_true rfl, Nat.le_of_ble_eq_true rfl⟩) ⟨En.blind, cr_0 hK hPD.1 hx1 hx2, fun U hU hW => ⟨rfl, En.of hU hW hPD.1 hK hPD.2 hN⟩⟩ rfl rfl hl.1 rfl (lv_room (Nat.le_of_ble_eq_true rfl)) dL_law_1092 hc0) hS (fun q _ h => hFc q h) hFc (fun r2 u3 t9 H locs ht9 hvm hw hB hz1 hk1 hS => ?_)
  refine W.widen (k := cells) (n := slots) (Nat.le_refl _) (Nat.le_refl _) ?_
  have hP := fr_keep hP hk1
  clear hPD hFl hz1 hk1 hw ht9 hvm hFc
  refine lv_pop hx hb dL_law_1095 rfl ?_
  refine lv_aload_n hx hb dL_law_1096 rfl (lv_at hl 1 rfl) ?_
  refine lv_aload_n hx hb dL_law_1097 rfl (lv_at hl 3 rfl) ?_
  refine lv_iload_n hx hb dL_law_1098 rfl (lv_at hl 0 rfl) ?_
  refine lv_iconst (v := 1) hx hb dL_law_1099 (by decide) ?_
  refine lv_iadd hx hb dL_law_1100 ?_
  refine lv_topi (fun w4 ew4 => ?_)
  have hw4 : vp_in w4 N9 := vi_in (k := 1) (by decide) ew4 (by omega) (by omega) hN9
  refine va_sld hx hb hX hbl hbA hS hw4 dL_law_1101 ?_
  refine ow_top (xs (i + 1).toNatClampNeg) (by rw [ew4]) ?_
  skip
  have hPD := fr_left (fr_swP hP) (fr_swD hD)
  have hFl := fr_leftF (fr_swD hD) hS hA
  refine va_calli (va_runV (As := [.int (xs (i + 1).toNatClampNeg)]) (rest := []) ⟨hx, hb, hml, hown, ht⟩ (m_left l G cy _ mo h T _ _ _ _ (xs (i + 1).toNatClampNeg) hv hf hR hL ) (cwV 1 ht (gv k_1063 k_150 k_151 k_61 k_148) rfl rfl rfl (by decide +kernel) ⟨Nat.le_of_ble_eq_true rfl, Nat.le_of_ble_eq_true rfl⟩) ⟨En.blind, va_recv hK hPD.1 (ci := 12) (q0 := 0) rfl rfl, fun U hU hW => ⟨rfl, En.of hU hW hPD.1 hK hPD.2 hN⟩⟩ rfl rfl hl.1 rfl (lv_room (Nat.le_of_ble_eq_true rfl)) dL_law_1102 hc0) hS (fun q _ h => hFl q h) hFl (fun r5 u6 t9 H locs ht9 hvm hw hB hz1 hk1 hS => ?_)
  refine W.widen (k := cells) (n := slots) (Nat.le_refl _) (Nat.le_refl _) ?_
  obtain ⟨hP1, hD1⟩ := hB
  rw [ht9] at hP1
  obtain ⟨hP, hD⟩ := fr_r hP hD hFl hk1 hP1 hD1
  have hf := MIf.any hf u6
  have hR := RI.up 28 (w := u6) hR (by decide)
  have hL := WL.upf 28 (w := u6) hL (by decide)
  clear hPD hFl hz1 hk1 hw ht9 hvm hP1 hD1
  refine lv_pop hx hb dL_law_1105 rfl ?_
  refine lv_goto (tgt := 1211) hx hb dL_law_1106 (by decide) ?_
  refine W.widen (k := cells + 1) (n := slots + 11) (by omega) (by omega) ?_
  exact kk T _ _ hT ⟨_, _, _, _, _, _, _, _, _, hRT, hI, hE, hv, hf, hR, hL, hP, hD, hS⟩
set_option maxHeartbeats 4000000 in
set_option maxRecDepth 100000 in
theorem law_27 (l : Launch) (hx : p.tables.exec = Jvm.exec) (hb : c.code = code) (hr : meth.sig.returnType = ret) (hml : c.maxLocals = 4) (hown : s.vm.findClass RL = some m.cls) (ht : ∀ w ∈ TBg, w.before #[Value.ref b] s = true) (hX : va_X b N9 xs s s.heap) (hbl : b < s.heap.size) (hlocks : meth.locks = false) (hK : va_K G vwCl (TY cy) s) (hN : NK s) (hXK : XK cy tq qq wq fo (fun q : Nat => s.heap.size ≤ q) s) (hx1 : x ∈ L) (hx2 : K x = 0) (hUX : ∀ z, K z = 0 → z = x) (hN9 : N9 ≤ 3072) {i : Int32} {T : Int} {H : Heap} {locs : List Loc} {ls : Array Slot} {cells slots : Nat} (hi0 : 0 ≤ i.toInt) (hi1 : i.toInt + 6 ≤ N9) (hT : 0 ≤ T ∧ T ≤ 100000) (hLI : LI G cy s L K mo h T H locs) (hc1 : cells + 1 ≤ room_1.cells ∧ slots + 11 ≤ room_1.slots) (hl : lv_has ls 4 [(3, .int i), (2, .ref mo), (1, .ref x), (0, .ref b)]) (kk : ∀ (T9 : Int) (H : Heap) (locs : List Loc), 0 ≤ T9 ∧ T9 ≤ 100000 → LI G cy s L K mo h T9 H locs → W p l e room_1 s m #[Value.ref b] below meth c H locs (cells + 1) (slots + 11) (lw_Z below #[Value.ref b] s) (F0 m 1211 ls [])) : W p l e room_1 s m #[Value.ref b] below meth c H locs cells slots (lw_Z below #[Value.ref b] s) (F0 m 1109 ls []) := by
  obtain ⟨R, I, J, E, B, v, nm, f, g, hRT, hI, hE, hv, hf, hR, hL, hP, hD, hS⟩ := hLI
  have hA : ∀ q : Nat, s.heap.size ≤ q → (fun q : Nat => s.heap.size ≤ q) q := fun _ h => h
  have hbA : ¬ (fun q : Nat => s.heap.size ≤ q) b := Nat.not_le.mpr hbl
  have hc0 : cells + 0 ≤ room_1.cells ∧ slots + 0 ≤ room_1.slots := ⟨Nat.le_trans (Nat.le_add_right _ _) hc1.1, Nat.le_trans (Nat.le_add_right _ _) hc1.2⟩
  refine lv_aload_n hx hb dL_law_1109 rfl (lv_at hl 2 rfl) ?_
  refine lv_aload_n hx hb dL_law_1110 rfl (lv_at hl 3 rfl) ?_
  refine lv_iload_n hx hb dL_law_1111 rfl (lv_at hl 0 rfl) ?_
  refine lv_iconst (v := 1) hx hb dL_law_1112 (by decide) ?_
  refine lv_iadd hx hb dL_law_1113 ?_
  refine lv_topi (fun w1 ew1 => ?_)
  have hw1 : vp_in w1 N9 := vi_in (k := 1) (by decide) ew1 (by omega) (by omega) hN9
  refine va_sld hx hb hX hbl hbA hS hw1 dL_law_1114 ?_
  refine ow_top (xs (i + 1).toNatClampNeg) (by rw [ew1]) ?_
  skip
  refine lv_aload_n hx hb dL_law_1115 rfl (lv_at hl 3 rfl) ?_
  refine lv_iload_n hx hb dL_law_1116 rfl (lv_at hl 0 rfl) ?_
  refine lv_iconst (v := 2) hx hb dL_law_1117 (by decide) ?_
  refine lv_iadd hx hb dL_law_1118 ?_
  refine lv_topi (fun w2 ew2 => ?_)
  have hw2 : vp_in w2 N9 := vi_in (k := 2) (by decide) ew2 (by omega) (by omega) hN9
  refine va_sld hx hb hX hbl hbA hS hw2 dL_law_1119 ?_
  refine ow_top (xs (i + 2).toNatClampNeg) (by rw [ew2]) ?_
  skip
  have hPD := fr_left hP hD
  have hFl := fr_leftF hD hS hA
  have hFc := fr_new hS hA
  refine va_calli (va_runV (As := [.int (xs (i + 1).toNatClampNeg), .int (xs (i + 2).toNatClampNeg)]) (rest := []) ⟨hx, hb, hml, hown, ht⟩ (x_next l G cy _ L K _ T _ _ _ _ x (xs (i + 1).toNatClampNeg) (xs (i + 2).toNatClampNeg) hRT hI hE hx1 hx2 ) (cwV 2 ht (gv k_1065 k_1066 k_1067 k_521 k_1064) rfl rfl rfl (by decide +kernel) ⟨Nat.le_of_ble_eq_true rfl, Nat.le_of_ble_eq_true rfl⟩) ⟨En.blind, cr_0 hK hPD.1 hx1 hx2, fun U hU hW => ⟨rfl, En.of hU hW hPD.1 hK hPD.2 hN⟩⟩ rfl rfl hl.1 rfl (lv_room (Nat.le_of_ble_eq_true rfl)) dL_law_1120 hc0) hS (fun q _ h => hFc q h) hFc (fun r3 u4 t9 H locs ht9 hvm hw hB hz1 hk1 hS => ?_)
  refine W.widen (k := cells) (n := slots) (Nat.le_refl _) (Nat.le_refl _) ?_
  have hP := fr_keep hP hk1
  clear hPD hFl hz1 hk1 hw ht9 hvm hFc
  refine lv_pop hx hb dL_law_1123 rfl ?_
  refine lv_aload_n hx hb dL_law_1124 rfl (lv_at hl 1 rfl) ?_
  refine lv_aload_n hx hb dL_law_1125 rfl (lv_at hl 3 rfl) ?_
  refine lv_iload_n hx hb dL_law_1126 rfl (lv_at hl 0 rfl) ?_
  refine lv_iconst (v := 1) hx hb dL_law_1127 (by decide) ?_
  refine lv_iadd hx hb dL_law_1128 ?_
  refine lv_topi (fun w5 ew5 => ?_)
  have hw5 : vp_in w5 N9 := vi_in (k := 1) (by decide) ew5 (by omega) (by omega) hN9
  refine va_sld hx hb hX hbl hbA hS hw5 dL_law_1129 ?_
  refine ow_top (xs (i + 1).toNatClampNeg) (by rw [ew5]) ?_
  skip
  refine lv_aload_n hx hb dL_law_1130 rfl (lv_at hl 3 rfl) ?_
  refine lv_iload_n hx hb dL_law_1131 rfl (lv_at hl 0 rfl) ?_
  refine lv_iconst (v := 2) hx hb dL_law_1132 (by decide) ?_
  refine lv_iadd hx hb dL_law_1133 ?_
  refine lv_topi (fun w6 ew6 => ?_)
  have hw6 : vp_in w6 N9 := vi_in (k := 2) (by decide) ew6 (by omega) (by omega) hN9
  refine va_sld hx hb hX hbl hbA hS hw6 dL_law_1134 ?_
  refine ow_top (xs (i + 2).toNatClampNeg) (by rw [ew6]) ?_
  skip
  have hPD := fr_left (fr_swP hP) (fr_swD hD)
  have hFl := fr_leftF (fr_swD hD) hS hA
  refine va_calli (va_runV (As := [.int (xs (i + 1).toNatClampNeg), .int (xs (i + 2).toNatClampNeg)]) (rest := []) ⟨hx, hb, hml, hown, ht⟩ (m_next l G cy _ mo h T _ _ _ _ (xs (i + 1).toNatClampNeg) (xs (i + 2).toNatClampNeg) hv hf hR hL ) (cwV 2 ht (gv k_1069 k_1070 k_1071 k_61 k_1068) rfl rfl rfl (by decide +kernel) ⟨Nat.le_of_ble_eq_true rfl, Nat.le_of_ble_eq_true rfl⟩) ⟨En.blind, va_recv hK hPD.1 (ci := 12) (q0 := 0) rfl rfl, fun U hU hW => ⟨rfl, En.of hU hW hPD.1 hK hPD.2 hN⟩⟩ rfl rfl hl.1 rfl (lv_room (Nat.le_of_ble_eq_true rfl)) dL_law_1135 hc0) hS (fun q _ h => hFl q h) hFl (fun r7 u8 t9 H locs ht9 hvm hw hB hz1 hk1 hS => ?_)
  refine W.widen (k := cells) (n := slots) (Nat.le_refl _) (Nat.le_refl _) ?_
  obtain ⟨hP1, hD1⟩ := hB
  rw [ht9] at hP1
  obtain ⟨hP, hD⟩ := fr_r hP hD hFl hk1 hP1 hD1
  have hf := MIf.any hf u8
  have hR := RI.up 28 (w := u8) hR (by decide)
  have hL := WL.upf 28 (w := u8) hL (by decide)
  clear hPD hFl hz1 hk1 hw ht9 hvm hP1 hD1
  refine lv_pop hx hb dL_law_1138 rfl ?_
  refine lv_goto (tgt := 1211) hx hb dL_law_1139 (by decide) ?_
  refine W.widen (k := cells + 1) (n := slots + 11) (by omega) (by omega) ?_
  exact kk T _ _ hT ⟨_, _, _, _, _, _, _, _, _, hRT, hI, hE, hv, hf, hR, hL, hP, hD, hS⟩
set_option maxHeartbeats 4000000 in
set_option maxRecDepth 100000 in
theorem law_28 (l : Launch) (hx : p.tables.exec = Jvm.exec) (hb : c.code = code) (hr : meth.sig.returnType = ret) (hml : c.maxLocals = 4) (hown : s.vm.findClass RL = some m.cls) (ht : ∀ w ∈ TBg, w.before #[Value.ref b] s = true) (hX : va_X b N9 xs s s.heap) (hbl : b < s.heap.size) (hlocks : meth.locks = false) (hK : va_K G vwCl (TY cy) s) (hN : NK s) (hXK : XK cy tq qq wq fo (fun q : Nat => s.heap.size ≤ q) s) (hx1 : x ∈ L) (hx2 : K x = 0) (hUX : ∀ z, K z = 0 → z = x) (hN9 : N9 ≤ 3072) {i : Int32} {T : Int} {H : Heap} {locs : List Loc} {ls : Array Slot} {cells slots : Nat} (hi0 : 0 ≤ i.toInt) (hi1 : i.toInt + 6 ≤ N9) (hT : 0 ≤ T ∧ T ≤ 100000) (hLI : LI G cy s L K mo h T H locs) (hc1 : cells + 1 ≤ room_1.cells ∧ slots + 11 ≤ room_1.slots) (hl : lv_has ls 4 [(3, .int i), (2, .ref mo), (1, .ref x), (0, .ref b)]) (kk : ∀ (T9 : Int) (H : Heap) (locs : List Loc), 0 ≤ T9 ∧ T9 ≤ 100000 → LI G cy s L K mo h T9 H locs → W p l e room_1 s m #[Value.ref b] below meth c H locs (cells + 1) (slots + 11) (lw_Z below #[Value.ref b] s) (F0 m 1211 ls [])) : W p l e room_1 s m #[Value.ref b] below meth c H locs cells slots (lw_Z below #[Value.ref b] s) (F0 m 1142 ls []) := by
  obtain ⟨R, I, J, E, B, v, nm, f, g, hRT, hI, hE, hv, hf, hR, hL, hP, hD, hS⟩ := hLI
  have hA : ∀ q : Nat, s.heap.size ≤ q → (fun q : Nat => s.heap.size ≤ q) q := fun _ h => h
  have hbA : ¬ (fun q : Nat => s.heap.size ≤ q) b := Nat.not_le.mpr hbl
  have hc0 : cells + 0 ≤ room_1.cells ∧ slots + 0 ≤ room_1.slots := ⟨Nat.le_trans (Nat.le_add_right _ _) hc1.1, Nat.le_trans (Nat.le_add_right _ _) hc1.2⟩
  refine lv_aload_n hx hb dL_law_1142 rfl (lv_at hl 2 rfl) ?_
  refine lv_aload_n hx hb dL_law_1143 rfl (lv_at hl 3 rfl) ?_
  refine lv_iload_n hx hb dL_law_1144 rfl (lv_at hl 0 rfl) ?_
  refine lv_iconst (v := 1) hx hb dL_law_1145 (by decide) ?_
  refine lv_iadd hx hb dL_law_1146 ?_
  refine lv_topi (fun w1 ew1 => ?_)
  have hw1 : vp_in w1 N9 := vi_in (k := 1) (by decide) ew1 (by omega) (by omega) hN9
  refine va_sld hx hb hX hbl hbA hS hw1 dL_law_1147 ?_
  refine ow_top (xs (i + 1).toNatClampNeg) (by rw [ew1]) ?_
  skip
  have hPD := fr_left hP hD
  have hFl := fr_leftF hD hS hA
  refine va_calli (va_runV (As := [.int (xs (i + 1).toNatClampNeg)]) (rest := []) ⟨hx, hb, hml, hown, ht⟩ (x_image l G cy _ L K _ T _ _ _ _ x (xs (i + 1).toNatClampNeg) hRT hI hE hx1 hx2 ) (cwV 1 ht (gv k_1073 k_1074 k_1075 k_521 k_1072) rfl rfl rfl (by decide +kernel) ⟨Nat.le_of_ble_eq_true rfl, Nat.le_of_ble_eq_true rfl⟩) ⟨En.blind, cr_0 hK hPD.1 hx1 hx2, fun U hU hW => ⟨rfl, En.of hU hW hPD.1 hK hPD.2 hN⟩⟩ rfl rfl hl.1 rfl (lv_room (Nat.le_of_ble_eq_true rfl)) dL_law_1148 hc0) hS (fun q _ h => hFl q h) hFl (fun r2 u3 t9 H locs ht9 hvm hw hB hz1 hk1 hS => ?_)
  refine W.widen (k := cells) (n := slots) (Nat.le_refl _) (Nat.le_refl _) ?_
  obtain ⟨hP1, hD1⟩ := hB
  rw [ht9] at hP1
  obtain ⟨hP, hD⟩ := fr_l hP hD hFl hk1 hP1 hD1
  have hI := hw.1
  have hE := hw.2.1
  clear hPD hFl hz1 hk1 hw ht9 hvm hP1 hD1
  refine lv_pop hx hb dL_law_1151 rfl ?_
  refine lv_aload_n hx hb dL_law_1152 rfl (lv_at hl 1 rfl) ?_
  refine lv_aload_n hx hb dL_law_1153 rfl (lv_at hl 3 rfl) ?_
  refine lv_iload_n hx hb dL_law_1154 rfl (lv_at hl 0 rfl) ?_
  refine lv_iconst (v := 1) hx hb dL_law_1155 (by decide) ?_
  refine lv_iadd hx hb dL_law_1156 ?_
  refine lv_topi (fun w4 ew4 => ?_)
  have hw4 : vp_in w4 N9 := vi_in (k := 1) (by decide) ew4 (by omega) (by omega) hN9
  refine va_sld hx hb hX hbl hbA hS hw4 dL_law_1157 ?_
  refine ow_top (xs (i + 1).toNatClampNeg) (by rw [ew4]) ?_
  skip
  have hPD := fr_left (fr_swP hP) (fr_swD hD)
  have hFl := fr_leftF (fr_swD hD) hS hA
  refine va_calli (va_runV (As := [.int (xs (i + 1).toNatClampNeg)]) (rest := []) ⟨hx, hb, hml, hown, ht⟩ (m_image l G cy _ mo h T _ _ _ _ (xs (i + 1).toNatClampNeg) hv hf hR hL ) (cwV 1 ht (gv k_1077 k_1078 k_1079 k_61 k_1076) rfl rfl rfl (by decide +kernel) ⟨Nat.le_of_ble_eq_true rfl, Nat.le_of_ble_eq_true rfl⟩) ⟨En.blind, va_recv hK hPD.1 (ci := 12) (q0 := 0) rfl rfl, fun U hU hW => ⟨rfl, En.of hU hW hPD.1 hK hPD.2 hN⟩⟩ rfl rfl hl.1 rfl (lv_room (Nat.le_of_ble_eq_true rfl)) dL_law_1158 hc0) hS (fun q _ h => hFl q h) hFl (fun r5 u6 t9 H locs ht9 hvm hw hB hz1 hk1 hS => ?_)
  refine W.widen (k := cells) (n := slots) (Nat.le_refl _) (Nat.le_refl _) ?_
  obtain ⟨hP1, hD1⟩ := hB
  rw [ht9] at hP1
  obtain ⟨hP, hD⟩ := fr_r hP hD hFl hk1 hP1 hD1
  have hv := hw.1
  have hf := hw.2.1
  have hR := hw.2.2.1
  have hL := hw.2.2.2.1
  clear hPD hFl hz1 hk1 hw ht9 hvm hP1 hD1
  refine lv_pop hx hb dL_law_1161 rfl ?_
  refine lv_goto (tgt := 1211) hx hb dL_law_1162 (by decide) ?_
  refine W.widen (k := cells + 1) (n := slots + 11) (by omega) (by omega) ?_
  exact kk T _ _ hT ⟨_, _, _, _, _, _, _, _, _, hRT, hI, hE, hv, hf, hR, hL, hP, hD, hS⟩
set_option maxHeartbeats 4000000 in
set_option maxRecDepth 100000 in
theorem law_29 (l : Launch) (hx : p.tables.exec = Jvm.exec) (hb : c.code = code) (hr : meth.sig.returnType = ret) (hml : c.maxLocals = 4) (hown : s.vm.findClass RL = some m.cls) (ht : ∀ w ∈ TBg, w.before #[Value.ref b] s = true) (hX : va_X b N9 xs s s.heap) (hbl : b < s.heap.size) (hlocks : meth.locks = false) (hK : va_K G vwCl (TY cy) s) (hN : NK s) (hXK : XK cy tq qq wq fo (fun q : Nat => s.heap.size ≤ q) s) (hx1 : x ∈ L) (hx2 : K x = 0) (hUX : ∀ z, K z = 0 → z = x) (hN9 : N9 ≤ 3072) {i : Int32} {T : Int} {H : Heap} {locs : List Loc} {ls : Array Slot} {cells slots : Nat} (hi0 : 0 ≤ i.toInt) (hi1 : i.toInt + 6 ≤ N9) (hT : 0 ≤ T ∧ T ≤ 100000) (hLI : LI G cy s L K mo h T H locs) (hc1 : cells + 1 ≤ room_1.cells ∧ slots + 11 ≤ room_1.slots) (hl : lv_has ls 4 [(3, .int i), (2, .ref mo), (1, .ref x), (0, .ref b)]) (kk : ∀ (T9 : Int) (H : Heap) (locs : List Loc), 0 ≤ T9 ∧ T9 ≤ 100000 → LI G cy s L K mo h T9 H locs → W p l e room_1 s m #[Value.ref b] below meth c H locs (cells + 1) (slots + 11) (lw_Z below #[Value.ref b] s) (F0 m 1211 ls [])) : W p l e room_1 s m #[Value.ref b] below meth c H locs cells slots (lw_Z below #[Value.ref b] s) (F0 m 1165 ls []) := by
  obtain ⟨R, I, J, E, B, v, nm, f, g, hRT, hI, hE, hv, hf, hR, hL, hP, hD, hS⟩ := hLI
  have hA : ∀ q : Nat, s.heap.size ≤ q → (fun q : Nat => s.heap.size ≤ q) q := fun _ h => h
  have hbA : ¬ (fun q : Nat => s.heap.size ≤ q) b := Nat.not_le.mpr hbl
  have hc0 : cells + 0 ≤ room_1.cells ∧ slots + 0 ≤ room_1.slots := ⟨Nat.le_trans (Nat.le_add_right _ _) hc1.1, Nat.le_trans (Nat.le_add_right _ _) hc1.2⟩
  refine lv_aload_n hx hb dL_law_1165 rfl (lv_at hl 2 rfl) ?_
  refine lv_aload_n hx hb dL_law_1166 rfl (lv_at hl 3 rfl) ?_
  refine lv_iload_n hx hb dL_law_1167 rfl (lv_at hl 0 rfl) ?_
  refine lv_iconst (v := 1) hx hb dL_law_1168 (by decide) ?_
  refine lv_iadd hx hb dL_law_1169 ?_
  refine lv_topi (fun w1 ew1 => ?_)
  have hw1 : vp_in w1 N9 := vi_in (k := 1) (by decide) ew1 (by omega) (by omega) hN9
  refine va_sld hx hb hX hbl hbA hS hw1 dL_law_1170 ?_
  refine ow_top (xs (i + 1).toNatClampNeg) (by rw [ew1]) ?_
  skip
  have hPD := fr_left hP hD
  have hFl := fr_leftF hD hS hA
  refine va_calli (va_runV (As := [.int (xs (i + 1).toNatClampNeg)]) (rest := []) ⟨hx, hb, hml, hown, ht⟩ (x_back l G cy _ L K _ T _ _ _ _ x (xs (i + 1).toNatClampNeg) hRT hI hE hx1 hx2 ) (cwV 1 ht (gv k_1081 k_1082 k_1083 k_521 k_1080) rfl rfl rfl (by decide +kernel) ⟨Nat.le_of_ble_eq_true rfl, Nat.le_of_ble_eq_true rfl⟩) ⟨En.blind, cr_0 hK hPD.1 hx1 hx2, fun U hU hW => ⟨rfl, En.of hU hW hPD.1 hK hPD.2 hN⟩⟩ rfl rfl hl.1 rfl (lv_room (Nat.le_of_ble_eq_true rfl)) dL_law_1171 hc0) hS (fun q _ h => hFl q h) hFl (fun r2 u3 t9 H locs ht9 hvm hw hB hz1 hk1 hS => ?_)
  refine W.widen (k := cells) (n := slots) (Nat.le_refl _) (Nat.le_refl _) ?_
  obtain ⟨hP1, hD1⟩ := hB
  rw [ht9] at hP1
  obtain ⟨hP, hD⟩ := fr_l hP hD hFl hk1 hP1 hD1
  have hI := hw.1
  have hE := hw.2.1
  clear hPD hFl hz1 hk1 hw ht9 hvm hP1 hD1
  refine lv_pop hx hb dL_law_1174 rfl ?_
  refine lv_aload_n hx hb dL_law_1175 rfl (lv_at hl 1 rfl) ?_
  refine lv_aload_n hx hb dL_law_1176 rfl (lv_at hl 3 rfl) ?_
  refine lv_iload_n hx hb dL_law_1177 rfl (lv_at hl 0 rfl) ?_
  refine lv_iconst (v := 1) hx hb dL_law_1178 (by decide) ?_
  refine lv_iadd hx hb dL_law_1179 ?_
  refine lv_topi (fun w4 ew4 => ?_)
  have hw4 : vp_in w4 N9 := vi_in (k := 1) (by decide) ew4 (by omega) (by omega) hN9
  refine va_sld hx hb hX hbl hbA hS hw4 dL_law_1180 ?_
  refine ow_top (xs (i + 1).toNatClampNeg) (by rw [ew4]) ?_
  skip
  have hPD := fr_left (fr_swP hP) (fr_swD hD)
  have hFl := fr_leftF (fr_swD hD) hS hA
  refine va_calli (va_runV (As := [.int (xs (i + 1).toNatClampNeg)]) (rest := []) ⟨hx, hb, hml, hown, ht⟩ (m_back l G cy _ mo h T _ _ _ _ (xs (i + 1).toNatClampNeg) hv hf hR hL ) (cwV 1 ht (gv k_1085 k_1086 k_1087 k_61 k_1084) rfl rfl rfl (by decide +kernel) ⟨Nat.le_of_ble_eq_true rfl, Nat.le_of_ble_eq_true rfl⟩) ⟨En.blind, va_recv hK hPD.1 (ci := 12) (q0 := 0) rfl rfl, fun U hU hW => ⟨rfl, En.of hU hW hPD.1 hK hPD.2 hN⟩⟩ rfl rfl hl.1 rfl (lv_room (Nat.le_of_ble_eq_true rfl)) dL_law_1181 hc0) hS (fun q _ h => hFl q h) hFl (fun r5 u6 t9 H locs ht9 hvm hw hB hz1 hk1 hS => ?_)
  refine W.widen (k := cells) (n := slots) (Nat.le_refl _) (Nat.le_refl _) ?_
  obtain ⟨hP1, hD1⟩ := hB
  rw [ht9] at hP1
  obtain ⟨hP, hD⟩ := fr_r hP hD hFl hk1 hP1 hD1
  have hv := hw.1
  have hf := hw.2.1
  have hR := hw.2.2.1
  have hL := hw.2.2.2.1
  clear hPD hFl hz1 hk1 hw ht9 hvm hP1 hD1
  refine lv_pop hx hb dL_law_1184 rfl ?_
  refine lv_goto (tgt := 1211) hx hb dL_law_1185 (by decide) ?_
  refine W.widen (k := cells + 1) (n := slots + 11) (by omega) (by omega) ?_
  exact kk T _ _ hT ⟨_, _, _, _, _, _, _, _, _, hRT, hI, hE, hv, hf, hR, hL, hP, hD, hS⟩
set_option maxHeartbeats 4000000 in
set_option maxRecDepth 100000 in
theorem law_30 (l : Launch) (hx : p.tables.exec = Jvm.exec) (hb : c.code = code) (hr : meth.sig.returnType = ret) (hml : c.maxLocals = 4) (hown : s.vm.findClass RL = some m.cls) (ht : ∀ w ∈ TBg, w.before #[Value.ref b] s = true) (hX : va_X b N9 xs s s.heap) (hbl : b < s.heap.size) (hlocks : meth.locks = false) (hK : va_K G vwCl (TY cy) s) (hN : NK s) (hXK : XK cy tq qq wq fo (fun q : Nat => s.heap.size ≤ q) s) (hx1 : x ∈ L) (hx2 : K x = 0) (hUX : ∀ z, K z = 0 → z = x) (hN9 : N9 ≤ 3072) {i : Int32} {T : Int} {H : Heap} {locs : List Loc} {ls : Array Slot} {cells slots : Nat} (hi0 : 0 ≤ i.toInt) (hi1 : i.toInt + 6 ≤ N9) (hT : 0 ≤ T ∧ T ≤ 100000) (hLI : LI G cy s L K mo h T H locs) (hc1 : cells + 1 ≤ room_1.cells ∧ slots + 11 ≤ room_1.slots) (hl : lv_has ls 4 [(3, .int i), (2, .ref mo), (1, .ref x), (0, .ref b)]) (kk : ∀ (T9 : Int) (H : Heap) (locs : List Loc), 0 ≤ T9 ∧ T9 ≤ 100000 → LI G cy s L K mo h T9 H locs → W p l e room_1 s m #[Value.ref b] below meth c H locs (cells + 1) (slots + 11) (lw_Z below #[Value.ref b] s) (F0 m 1211 ls [])) : W p l e room_1 s m #[Value.ref b] below meth c H locs cells slots (lw_Z below #[Value.ref b] s) (F0 m 1188 ls []) := by
  obtain ⟨R, I, J, E, B, v, nm, f, g, hRT, hI, hE, hv, hf, hR, hL, hP, hD, hS⟩ := hLI
  have hA : ∀ q : Nat, s.heap.size ≤ q → (fun q : Nat => s.heap.size ≤ q) q := fun _ h => h
  have hbA : ¬ (fun q : Nat => s.heap.size ≤ q) b := Nat.not_le.mpr hbl
  have hc0 : cells + 0 ≤ room_1.cells ∧ slots + 0 ≤ room_1.slots := ⟨Nat.le_trans (Nat.le_add_right _ _) hc1.1, Nat.le_trans (Nat.le_add_right _ _) hc1.2⟩
  refine lv_aload_n hx hb dL_law_1188 rfl (lv_at hl 2 rfl) ?_
  refine lv_aload_n hx hb dL_law_1189 rfl (lv_at hl 3 rfl) ?_
  refine lv_iload_n hx hb dL_law_1190 rfl (lv_at hl 0 rfl) ?_
  refine lv_iconst (v := 1) hx hb dL_law_1191 (by decide) ?_
  refine lv_iadd hx hb dL_law_1192 ?_
  refine lv_topi (fun w1 ew1 => ?_)
  have hw1 : vp_in w1 N9 := vi_in (k := 1) (by decide) ew1 (by omega) (by omega) hN9
  refine va_sld hx hb hX hbl hbA hS hw1 dL_law_1193 ?_
  refine ow_top (xs (i + 1).toNatClampNeg) (by rw [ew1]) ?_
  skip
  have hPD := fr_left hP hD
  have hFl := fr_leftF hD hS hA
  have hFc := fr_new hS hA
  refine va_calli (va_runV (As := [.int (xs (i + 1).toNatClampNeg)]) (rest := []) ⟨hx, hb, hml, hown, ht⟩ (x_about l G cy _ L K _ T _ _ _ _ x (xs (i + 1).toNatClampNeg) hRT hI hE hx1 hx2 ) (cwV 1 ht (gv k_1089 k_1090 k_1091 k_521 k_1088) rfl rfl rfl (by decide +kernel) ⟨Nat.le_of_ble_eq_true rfl, Nat.le_of_ble_eq_true rfl⟩) ⟨En.blind, cr_0 hK hPD.1 hx1 hx2, fun U hU hW => ⟨rfl, En.of hU hW hPD.1 hK hPD.2 hN⟩⟩ rfl rfl hl.1 rfl (lv_room (Nat.le_of_ble_eq_true rfl)) dL_law_1194 hc0) hS (fun q _ h => hFc q h) hFc (fun r2 u3 t9 H locs ht9 hvm hw hB hz1 hk1 hS => ?_)
  refine W.widen (k := cells) (n := slots) (Nat.le_refl _) (Nat.le_refl _) ?_
  have hP := fr_keep hP hk1
  clear hPD hFl hz1 hk1 hw ht9 hvm hFc
  refine lv_pop hx hb dL_law_1197 rfl ?_
  refine lv_aload_n hx hb dL_law_1198 rfl (lv_at hl 1 rfl) ?_
  refine lv_aload_n hx hb dL_law_1199 rfl (lv_at hl 3 rfl) ?_
  refine lv_iload_n hx hb dL_law_1200 rfl (lv_at hl 0 rfl) ?_
  refine lv_iconst (v := 1) hx hb dL_law_1201 (by decide) ?_
  refine lv_iadd hx hb dL_law_1202 ?_
  refine lv_topi (fun w4 ew4 => ?_)
  have hw4 : vp_in w4 N9 := vi_in (k := 1) (by decide) ew4 (by omega) (by omega) hN9
  refine va_sld hx hb hX hbl hbA hS hw4 dL_law_1203 ?_
  refine ow_top (xs (i + 1).toNatClampNeg) (by rw [ew4]) ?_
  skip
  have hPD := fr_left (fr_swP hP) (fr_swD hD)
  have hFl := fr_leftF (fr_swD hD) hS hA
  have hFc := fr_new hS hA
  refine va_calli (va_runV (As := [.int (xs (i + 1).toNatClampNeg)]) (rest := []) ⟨hx, hb, hml, hown, ht⟩ (m_about l G cy _ mo h T _ _ _ _ (xs (i + 1).toNatClampNeg) hv hf hR hL ) (cwV 1 ht (gv k_1093 k_1094 k_1095 k_61 k_1092) rfl rfl rfl (by decide +kernel) ⟨Nat.le_of_ble_eq_true rfl, Nat.le_of_ble_eq_true rfl⟩) ⟨En.blind, va_recv hK hPD.1 (ci := 12) (q0 := 0) rfl rfl, fun U hU hW => ⟨rfl, En.of hU hW hPD.1 hK hPD.2 hN⟩⟩ rfl rfl hl.1 rfl (lv_room (Nat.le_of_ble_eq_true rfl)) dL_law_1204 hc0) hS (fun q _ h => hFc q h) hFc (fun r5 u6 t9 H locs ht9 hvm hw hB hz1 hk1 hS => ?_)
  refine W.widen (k := cells) (n := slots) (Nat.le_refl _) (Nat.le_refl _) ?_
  have hP := fr_keep hP hk1
  clear hPD hFl hz1 hk1 hw ht9 hvm hFc
  refine lv_pop hx hb dL_law_1207 rfl ?_
  refine lv_goto (tgt := 1211) hx hb dL_law_1208 (by decide) ?_
  refine W.widen (k := cells + 1) (n := slots + 11) (by omega) (by omega) ?_
  exact kk T _ _ hT ⟨_, _, _, _, _, _, _, _, _, hRT, hI, hE, hv, hf, hR, hL, hP, hD, hS⟩
end LAWS
