section LAWS
variable {p : Program} {e : Env} {s : State} {m : MethodId} {below : List Frame} {meth : Method} {c : Code} {b N9 : Nat} {xs : Nat → Int32} {G : va_G} {cy : Nat → ClassId} {x mo : Nat} {L : List Nat} {K : Nat → Nat} {h : Nat → Nat} {tq qq wq : Nat} {fo : Option Nat}
set_option maxHeartbeats 4000000 in
set_option maxRecDepth 100000 in
theorem law_8 (l : Launch) (hx : p.tables.exec = Jvm.exec) (hb : c.code = code) (hr : meth.sig.returnType = ret) (hml : c.maxLocals = 4) (hown : s.vm.findClass RL = some m.cls) (ht : ∀ w ∈ TBg, w.before #[Value.ref b] s = true) (hX : va_X b N9 xs s s.heap) (hbl : b < s.heap.size) (hlocks : meth.locks = false) (hK : va_K G vwCl (TY cy) s) (hN : NK s) (hXK : XK cy tq qq wq fo (fun q : Nat => s.heap.size ≤ q) s) (hx1 : x ∈ L) (hx2 : K x = 0) (hUX : ∀ z, K z = 0 → z = x) (hN9 : N9 ≤ 3072) {i : Int32} {T : Int} {H : Heap} {locs : List Loc} {ls : Array Slot} {cells slots : Nat} (hi0 : 0 ≤ i.toInt) (hi1 : i.toInt + 6 ≤ N9) (hT : 0 ≤ T ∧ T ≤ 100000) (hLI : LI G cy s L K mo h T H locs) (hc1 : cells + 1 ≤ room_1.cells ∧ slots + 11 ≤ room_1.slots) (hl : lv_has ls 4 [(3, .int i), (2, .ref mo), (1, .ref x), (0, .ref b)]) (kk : ∀ (T9 : Int) (H : Heap) (locs : List Loc), 0 ≤ T9 ∧ T9 ≤ 100000 → LI G cy s L K mo h T9 H locs → W p l e room_1 s m #[Value.ref b] below meth c H locs (cells + 1) (slots + 11) (lw_Z below #[Value.ref b] s) (F0 m 1211 ls [])) : W p l e room_1 s m #[Value.ref b] below meth c H locs cells slots (lw_Z below #[Value.ref b] s) (F0 m 436 ls []) := by
  obtain ⟨R, I, J, E, B, v, nm, f, g, hRT, hI, hE, hv, hf, hR, hL, hP, hD, hS⟩ := hLI
  have hA : ∀ q : Nat, s.heap.size ≤ q → (fun q : Nat => s.heap.size ≤ q) q := fun _ h => h
  have hbA : ¬ (fun q : Nat => s.heap.size ≤ q) b := Nat.not_le.mpr hbl
  have hc0 : cells + 0 ≤ room_1.cells ∧ slots + 0 ≤ room_1.slots := ⟨Nat.le_trans (Nat.le_add_right _ _) hc1.1, Nat.le_trans (Nat.le_add_right _ _) hc1.2⟩
  refine lv_aload_n hx hb dL_law_436 rfl (lv_at hl 2 rfl) ?_
  refine lv_aload_n hx hb dL_law_437 rfl (lv_at hl 3 rfl) ?_
  refine lv_iload_n hx hb dL_law_438 rfl (lv_at hl 0 rfl) ?_
  refine lv_iconst (v := 1) hx hb dL_law_439 (by decide) ?_
  refine lv_iadd hx hb dL_law_440 ?_
  refine lv_topi (fun w1 ew1 => ?_)
  have hw1 : vp_in w1 N9 := vi_in (k := 1) (by decide) ew1 (by omega) (by omega) hN9
  refine va_sld hx hb hX hbl hbA hS hw1 dL_law_441 ?_
  refine ow_top (xs (i + 1).toNatClampNeg) (by rw [ew1]) ?_
  skip
  refine lv_aload_n hx hb dL_law_442 rfl (lv_at hl 3 rfl) ?_
  refine lv_iload_n hx hb dL_law_443 rfl (lv_at hl 0 rfl) ?_
  refine lv_iconst (v := 2) hx hb dL_law_444 (by decide) ?_
  refine lv_iadd hx hb dL_law_445 ?_
  refine lv_topi (fun w2 ew2 => ?_)
  have hw2 : vp_in w2 N9 := vi_in (k := 2) (by decide) ew2 (by omega) (by omega) hN9
  refine va_sld hx hb hX hbl hbA hS hw2 dL_law_446 ?_
  refine ow_top (xs (i + 2).toNatClampNeg) (by rw [ew2]) ?_
  skip
  have hj3 : ∀ bz4 : Int32, 0 ≤ bz4.toInt ∧ bz4.toInt ≤ 1 → W p l e room_1 s m #[Value.ref b] below meth c H locs cells slots (lw_Z below #[Value.ref b] s) (F0 m 455 ls [.int bz4, .int (xs (i + 1).toNatClampNeg), .ref x]) := by
    intro bz4 hbz4
    have hPD := fr_left hP hD
    have hFl := fr_leftF hD hS hA
    refine va_calli (va_runV (As := [.int (xs (i + 1).toNatClampNeg), .int bz4]) (rest := []) ⟨hx, hb, hml, hown, ht⟩ (x_doors l G cy _ L K _ T _ _ _ _ x (xs (i + 1).toNatClampNeg) bz4 hRT hI hE hx1 hx2 hbz4) (cwV 2 ht (gv k_919 k_920 k_921 k_521 k_918) rfl rfl rfl (by decide +kernel) ⟨Nat.le_of_ble_eq_true rfl, Nat.le_of_ble_eq_true rfl⟩) ⟨En.blind, cr_0 hK hPD.1 hx1 hx2, fun U hU hW => ⟨rfl, En.of hU hW hPD.1 hK hPD.2 hN⟩⟩ rfl rfl hl.1 rfl (lv_room (Nat.le_of_ble_eq_true rfl)) dL_law_455 hc0) hS (fun q _ h => hFl q h) hFl (fun r5 u6 t9 H locs ht9 hvm hw hB hz1 hk1 hS => ?_)
    refine W.widen (k := cells) (n := slots) (Nat.le_refl _) (Nat.le_refl _) ?_
    obtain ⟨hP1, hD1⟩ := hB
    rw [ht9] at hP1
    obtain ⟨hP, hD⟩ := fr_l hP hD hFl hk1 hP1 hD1
    have hI := hw.1
    have hE := hw.2.1
    clear hPD hFl hz1 hk1 hw ht9 hvm hP1 hD1
    refine lv_pop hx hb dL_law_458 rfl ?_
    refine lv_aload_n hx hb dL_law_459 rfl (lv_at hl 1 rfl) ?_
    refine lv_aload_n hx hb dL_law_460 rfl (lv_at hl 3 rfl) ?_
    refine lv_iload_n hx hb dL_law_461 rfl (lv_at hl 0 rfl) ?_
    refine lv_iconst (v := 1) hx hb dL_law_462 (by decide) ?_
    refine lv_iadd hx hb dL_law_463 ?_
    refine lv_topi (fun w7 ew7 => ?_)
    have hw7 : vp_in w7 N9 := vi_in (k := 1) (by decide) ew7 (by omega) (by omega) hN9
    refine va_sld hx hb hX hbl hbA hS hw7 dL_law_464 ?_
    refine ow_top (xs (i + 1).toNatClampNeg) (by rw [ew7]) ?_
    skip
    refine lv_aload_n hx hb dL_law_465 rfl (lv_at hl 3 rfl) ?_
    refine lv_iload_n hx hb dL_law_466 rfl (lv_at hl 0 rfl) ?_
    refine lv_iconst (v := 2) hx hb dL_law_467 (by decide) ?_
    refine lv_iadd hx hb dL_law_468 ?_
    refine lv_topi (fun w8 ew8 => ?_)
    have hw8 : vp_in w8 N9 := vi_in (k := 2) (by decide) ew8 (by omega) (by omega) hN9
    refine va_sld hx hb hX hbl hbA hS hw8 dL_law_469 ?_
    refine ow_top (xs (i + 2).toNatClampNeg) (by rw [ew8]) ?_
    skip
    have hj9 : ∀ bz10 : Int32, 0 ≤ bz10.toInt ∧ bz10.toInt ≤ 1 → W p l e room_1 s m #[Value.ref b] below meth c H locs cells slots (lw_Z below #[Value.ref b] s) (F0 m 478 ls [.int bz10, .int (xs (i + 1).toNatClampNeg), .ref mo]) := by
      intro bz10 hbz10
      have hPD := fr_left (fr_swP hP) (fr_swD hD)
      have hFl := fr_leftF (fr_swD hD) hS hA
      refine va_calli (va_runV (As := [.int (xs (i + 1).toNatClampNeg), .int bz10]) (rest := []) ⟨hx, hb, hml, hown, ht⟩ (m_doors l G cy _ mo h T _ _ _ _ (xs (i + 1).toNatClampNeg) bz10 hv hf hR hL ) (cwV 2 ht (gv k_923 k_924 k_925 k_61 k_922) rfl rfl rfl (by decide +kernel) ⟨Nat.le_of_ble_eq_true rfl, Nat.le_of_ble_eq_true rfl⟩) ⟨En.blind, va_recv hK hPD.1 (ci := 12) (q0 := 0) rfl rfl, fun U hU hW => ⟨rfl, En.of hU hW hPD.1 hK hPD.2 hN⟩⟩ rfl rfl hl.1 rfl (lv_room (Nat.le_of_ble_eq_true rfl)) dL_law_478 hc0) hS (fun q _ h => hFl q h) hFl (fun r11 u12 t9 H locs ht9 hvm hw hB hz1 hk1 hS => ?_)
      refine W.widen (k := cells) (n := slots) (Nat.le_refl _) (Nat.le_refl _) ?_
      obtain ⟨hP1, hD1⟩ := hB
      rw [ht9] at hP1
      obtain ⟨hP, hD⟩ := fr_r hP hD hFl hk1 hP1 hD1
      have hf := MIf.any hf u12
      have hR := RI.up 28 (w := u12) hR (by decide)
      have hL := WL.upf 28 (w := u12) hL (by decide)
      clear hPD hFl hz1 hk1 hw ht9 hvm hP1 hD1
      refine lv_pop hx hb dL_law_481 rfl ?_
      refine lv_goto (tgt := 1211) hx hb dL_law_482 (by decide) ?_
      refine W.widen (k := cells + 1) (n := slots + 11) (by omega) (by omega) ?_
      exact kk T _ _ hT ⟨_, _, _, _, _, _, _, _, _, hRT, hI, hE, hv, hf, hR, hL, hP, hD, hS⟩
    refine lv_if_eq (tgt := 477) hx hb dL_law_470 (by decide) (fun _ => ?_) (fun _ => ?_)
    · refine lv_iconst (v := 0) hx hb dL_law_477 (by decide) ?_
      exact hj9 0 (by decide)
    · refine lv_iconst (v := 1) hx hb dL_law_473 (by decide) ?_
      refine lv_goto (tgt := 478) hx hb dL_law_474 (by decide) ?_
      exact hj9 1 (by decide)
  refine lv_if_eq (tgt := 454) hx hb dL_law_447 (by decide) (fun _ => ?_) (fun _ => ?_)
  · refine lv_iconst (v := 0) hx hb dL_law_454 (by decide) ?_
    exact hj3 0 (by decide)
  · refine lv_iconst (v := 1) hx hb dL_law_450 (by decide) ?_
    refine lv_goto (tgt := 455) hx hb dL_law_451 (by decide) ?_
    exact hj3 1 (by decide)
set_option maxHeartbeats 4000000 in
set_option maxRecDepth 100000 in
theorem law_9 (l : Launch) (hx : p.tables.exec = Jvm.exec) (hb : c.code = code) (hr : meth.sig.returnType = ret) (hml : c.maxLocals = 4) (hown : s.vm.findClass RL = some m.cls) (ht : ∀ w ∈ TBg, w.before #[Value.ref b] s = true) (hX : va_X b N9 xs s s.heap) (hbl : b < s.heap.size) (hlocks : meth.locks = false) (hK : va_K G vwCl (TY cy) s) (hN : NK s) (hXK : XK cy tq qq wq fo (fun q : Nat => s.heap.size ≤ q) s) (hx1 : x ∈ L) (hx2 : K x = 0) (hUX : ∀ z, K z = 0 → z = x) (hN9 : N9 ≤ 3072) {i : Int32} {T : Int} {H : Heap} {locs : List Loc} {ls : Array Slot} {cells slots : Nat} (hi0 : 0 ≤ i.toInt) (hi1 : i.toInt + 6 ≤ N9) (hT : 0 ≤ T ∧ T ≤ 100000) (hLI : LI G cy s L K mo h T H locs) (hc1 : cells + 1 ≤ room_1.cells ∧ slots + 11 ≤ room_1.slots) (hl : lv_has ls 4 [(3, .int i), (2, .ref mo), (1, .ref x), (0, .ref b)]) (kk : ∀ (T9 : Int) (H : Heap) (locs : List Loc), 0 ≤ T9 ∧ T9 ≤ 100000 → LI G cy s L K mo h T9 H locs → W p l e room_1 s m #[Value.ref b] below meth c H locs (cells + 1) (slots + 11) (lw_Z below #[Value.ref b] s) (F0 m 1211 ls [])) : W p l e room_1 s m #[Value.ref b] below meth c H locs cells slots (lw_Z below #[Value.ref b] s) (F0 m 485 ls []) := by
  obtain ⟨R, I, J, E, B, v, nm, f, g, hRT, hI, hE, hv, hf, hR, hL, hP, hD, hS⟩ := hLI
  have hA : ∀ q : Nat, s.heap.size ≤ q → (fun q : Nat => s.heap.size ≤ q) q := fun _ h => h
  have hbA : ¬ (fun q : Nat => s.heap.size ≤ q) b := Nat.not_le.mpr hbl
  have hc0 : cells + 0 ≤ room_1.cells ∧ slots + 0 ≤ room_1.slots := ⟨Nat.le_trans (Nat.le_add_right _ _) hc1.1, Nat.le_trans (Nat.le_add_right _ _) hc1.2⟩
  refine lv_aload_n hx hb dL_law_485 rfl (lv_at hl 2 rfl) ?_
  refine lv_aload_n hx hb dL_law_486 rfl (lv_at hl 3 rfl) ?_
  refine lv_iload_n hx hb dL_law_487 rfl (lv_at hl 0 rfl) ?_
  refine lv_iconst (v := 1) hx hb dL_law_488 (by decide) ?_
  refine lv_iadd hx hb dL_law_489 ?_
  refine lv_topi (fun w1 ew1 => ?_)
  have hw1 : vp_in w1 N9 := vi_in (k := 1) (by decide) ew1 (by omega) (by omega) hN9
  refine va_sld hx hb hX hbl hbA hS hw1 dL_law_490 ?_
  refine ow_top (xs (i + 1).toNatClampNeg) (by rw [ew1]) ?_
  skip
  refine lv_aload_n hx hb dL_law_491 rfl (lv_at hl 3 rfl) ?_
  refine lv_iload_n hx hb dL_law_492 rfl (lv_at hl 0 rfl) ?_
  refine lv_iconst (v := 2) hx hb dL_law_493 (by decide) ?_
  refine lv_iadd hx hb dL_law_494 ?_
  refine lv_topi (fun w2 ew2 => ?_)
  have hw2 : vp_in w2 N9 := vi_in (k := 2) (by decide) ew2 (by omega) (by omega) hN9
  refine va_sld hx hb hX hbl hbA hS hw2 dL_law_495 ?_
  refine ow_top (xs (i + 2).toNatClampNeg) (by rw [ew2]) ?_
  skip
  refine lv_aload_n hx hb dL_law_496 rfl (lv_at hl 3 rfl) ?_
  refine lv_iload_n hx hb dL_law_497 rfl (lv_at hl 0 rfl) ?_
  refine lv_iconst (v := 3) hx hb dL_law_498 (by decide) ?_
  refine lv_iadd hx hb dL_law_499 ?_
  refine lv_topi (fun w3 ew3 => ?_)
  have hw3 : vp_in w3 N9 := vi_in (k := 3) (by decide) ew3 (by omega) (by omega) hN9
  refine va_sld hx hb hX hbl hbA hS hw3 dL_law_500 ?_
  refine ow_top (xs (i + 3).toNatClampNeg) (by rw [ew3]) ?_
  skip
  have hj4 : ∀ bz5 : Int32, 0 ≤ bz5.toInt ∧ bz5.toInt ≤ 1 → W p l e room_1 s m #[Value.ref b] below meth c H locs cells slots (lw_Z below #[Value.ref b] s) (F0 m 509 ls [.int bz5, .int (xs (i + 2).toNatClampNeg), .int (xs (i + 1).toNatClampNeg), .ref x]) := by
    intro bz5 hbz5
    have hPD := fr_left hP hD
    have hFl := fr_leftF hD hS hA
    refine va_calli (va_runV (As := [.int (xs (i + 1).toNatClampNeg), .int (xs (i + 2).toNatClampNeg), .int bz5]) (rest := []) ⟨hx, hb, hml, hown, ht⟩ (x_asked l G cy _ L K _ T _ _ _ _ x (xs (i + 1).toNatClampNeg) (xs (i + 2).toNatClampNeg) bz5 hRT hI hE hx1 hx2 hbz5) (cwV 3 ht (gv k_927 k_928 k_929 k_521 k_926) rfl rfl rfl (by decide +kernel) ⟨Nat.le_of_ble_eq_true rfl, Nat.le_of_ble_eq_true rfl⟩) ⟨En.blind, cr_0 hK hPD.1 hx1 hx2, fun U hU hW => ⟨rfl, En.of hU hW hPD.1 hK hPD.2 hN⟩⟩ rfl rfl hl.1 rfl (lv_room (Nat.le_of_ble_eq_true rfl)) dL_law_509 hc0) hS (fun q _ h => hFl q h) hFl (fun r6 u7 t9 H locs ht9 hvm hw hB hz1 hk1 hS => ?_)
    refine W.widen (k := cells) (n := slots) (Nat.le_refl _) (Nat.le_refl _) ?_
    obtain ⟨hP1, hD1⟩ := hB
    rw [ht9] at hP1
    obtain ⟨hP, hD⟩ := fr_l hP hD hFl hk1 hP1 hD1
    have hI := hw.1
    have hE := hw.2.1
    clear hPD hFl hz1 hk1 hw ht9 hvm hP1 hD1
    refine lv_pop hx hb dL_law_512 rfl ?_
    refine lv_aload_n hx hb dL_law_513 rfl (lv_at hl 1 rfl) ?_
    refine lv_aload_n hx hb dL_law_514 rfl (lv_at hl 3 rfl) ?_
    refine lv_iload_n hx hb dL_law_515 rfl (lv_at hl 0 rfl) ?_
    refine lv_iconst (v := 1) hx hb dL_law_516 (by decide) ?_
    refine lv_iadd hx hb dL_law_517 ?_
    refine lv_topi (fun w8 ew8 => ?_)
    have hw8 : vp_in w8 N9 := vi_in (k := 1) (by decide) ew8 (by omega) (by omega) hN9
    refine va_sld hx hb hX hbl hbA hS hw8 dL_law_518 ?_
    refine ow_top (xs (i + 1).toNatClampNeg) (by rw [ew8]) ?_
    skip
    refine lv_aload_n hx hb dL_law_519 rfl (lv_at hl 3 rfl) ?_
    refine lv_iload_n hx hb dL_law_520 rfl (lv_at hl 0 rfl) ?_
    refine lv_iconst (v := 2) hx hb dL_law_521 (by decide) ?_
    refine lv_iadd hx hb dL_law_522 ?_
    refine lv_topi (fun w9 ew9 => ?_)
    have hw9 : vp_in w9 N9 := vi_in (k := 2) (by decide) ew9 (by omega) (by omega) hN9
    refine va_sld hx hb hX hbl hbA hS hw9 dL_law_523 ?_
    refine ow_top (xs (i + 2).toNatClampNeg) (by rw [ew9]) ?_
    skip
    refine lv_aload_n hx hb dL_law_524 rfl (lv_at hl 3 rfl) ?_
    refine lv_iload_n hx hb dL_law_525 rfl (lv_at hl 0 rfl) ?_
    refine lv_iconst (v := 3) hx hb dL_law_526 (by decide) ?_
    refine lv_iadd hx hb dL_law_527 ?_
    refine lv_topi (fun w10 ew10 => ?_)
    have hw10 : vp_in w10 N9 := vi_in (k := 3) (by decide) ew10 (by omega) (by omega) hN9
    refine va_sld hx hb hX hbl hbA hS hw10 dL_law_528 ?_
    refine ow_top (xs (i + 3).toNatClampNeg) (by rw [ew10]) ?_
    skip
    have hj11 : ∀ bz12 : Int32, 0 ≤ bz12.toInt ∧ bz12.toInt ≤ 1 → W p l e room_1 s m #[Value.ref b] below meth c H locs cells slots (lw_Z below #[Value.ref b] s) (F0 m 537 ls [.int bz12, .int (xs (i + 2).toNatClampNeg), .int (xs (i + 1).toNatClampNeg), .ref mo]) := by
      intro bz12 hbz12
      have hPD := fr_left (fr_swP hP) (fr_swD hD)
      have hFl := fr_leftF (fr_swD hD) hS hA
      refine va_calli (va_runV (As := [.int (xs (i + 1).toNatClampNeg), .int (xs (i + 2).toNatClampNeg), .int bz12]) (rest := []) ⟨hx, hb, hml, hown, ht⟩ (m_asked l G cy _ mo h T _ _ _ _ (xs (i + 1).toNatClampNeg) (xs (i + 2).toNatClampNeg) bz12 hv hf hR hL ) (cwV 3 ht (gv k_931 k_932 k_933 k_61 k_930) rfl rfl rfl (by decide +kernel) ⟨Nat.le_of_ble_eq_true rfl, Nat.le_of_ble_eq_true rfl⟩) ⟨En.blind, va_recv hK hPD.1 (ci := 12) (q0 := 0) rfl rfl, fun U hU hW => ⟨rfl, En.of hU hW hPD.1 hK hPD.2 hN⟩⟩ rfl rfl hl.1 rfl (lv_room (Nat.le_of_ble_eq_true rfl)) dL_law_537 hc0) hS (fun q _ h => hFl q h) hFl (fun r13 u14 t9 H locs ht9 hvm hw hB hz1 hk1 hS => ?_)
      refine W.widen (k := cells) (n := slots) (Nat.le_refl _) (Nat.le_refl _) ?_
      obtain ⟨hP1, hD1⟩ := hB
      rw [ht9] at hP1
      obtain ⟨hP, hD⟩ := fr_r hP hD hFl hk1 hP1 hD1
      have hf := MIf.any hf u14
      have hR := RI.up 28 (w := u14) hR (by decide)
      have hL := WL.upf 28 (w := u14) hL (by decide)
      clear hPD hFl hz1 hk1 hw ht9 hvm hP1 hD1
      refine lv_pop hx hb dL_law_540 rfl ?_
      refine lv_goto (tgt := 1211) hx hb dL_law_541 (by decide) ?_
      refine W.widen (k := cells + 1) (n := slots + 11) (by omega) (by omega) ?_
      exact kk T _ _ hT ⟨_, _, _, _, _, _, _, _, _, hRT, hI, hE, hv, hf, hR, hL, hP, hD, hS⟩
    refine lv_if_eq (tgt := 536) hx hb dL_law_529 (by decide) (fun _ => ?_) (fun _ => ?_)
    · refine lv_iconst (v := 0) hx hb dL_law_536 (by decide) ?_
      exact hj11 0 (by decide)
    · refine lv_iconst (v := 1) hx hb dL_law_532 (by decide) ?_
      refine lv_goto (tgt := 537) hx hb dL_law_533 (by decide) ?_
      exact hj11 1 (by decide)
  refine lv_if_eq (tgt := 508) hx hb dL_law_501 (by decide) (fun _ => ?_) (fun _ => ?_)
  · refine lv_iconst (v := 0) hx hb dL_law_508 (by decide) ?_
    exact hj4 0 (by decide)
  · refine lv_iconst (v := 1) hx hb dL_law_504 (by decide) ?_
    refine lv_goto (tgt := 509) hx hb dL_law_505 (by decide) ?_
    exact hj4 1 (by decide)
set_option maxHeartbeats 4000000 in
set_option maxRecDepth 100000 in
theorem law_10 (l : Launch) (hx : p.tables.exec = Jvm.exec) (hb : c.code = code) (hr : meth.sig.returnType = ret) (hml : c.maxLocals = 4) (hown : s.vm.findClass RL = some m.cls) (ht : ∀ w ∈ TBg, w.before #[Value.ref b] s = true) (hX : va_X b N9 xs s s.heap) (hbl : b < s.heap.size) (hlocks : meth.locks = false) (hK : va_K G vwCl (TY cy) s) (hN : NK s) (hXK : XK cy tq qq wq fo (fun q : Nat => s.heap.size ≤ q) s) (hx1 : x ∈ L) (hx2 : K x = 0) (hUX : ∀ z, K z = 0 → z = x) (hN9 : N9 ≤ 3072) {i : Int32} {T : Int} {H : Heap} {locs : List Loc} {ls : Array Slot} {cells slots : Nat} (hi0 : 0 ≤ i.toInt) (hi1 : i.toInt + 6 ≤ N9) (hT : 0 ≤ T ∧ T ≤ 100000) (hLI : LI G cy s L K mo h T H locs) (hc1 : cells + 1 ≤ room_1.cells ∧ slots + 11 ≤ room_1.slots) (hl : lv_has ls 4 [(3, .int i), (2, .ref mo), (1, .ref x), (0, .ref b)]) (kk : ∀ (T9 : Int) (H : Heap) (locs : List Loc), 0 ≤ T9 ∧ T9 ≤ 100000 → LI G cy s L K mo h T9 H locs → W p l e room_1 s m #[Value.ref b] below meth c H locs (cells + 1) (slots + 11) (lw_Z below #[Value.ref b] s) (F0 m 1211 ls [])) : W p l e room_1 s m #[Value.ref b] below meth c H locs cells slots (lw_Z below #[Value.ref b] s) (F0 m 544 ls []) := by
  obtain ⟨R, I, J, E, B, v, nm, f, g, hRT, hI, hE, hv, hf, hR, hL, hP, hD, hS⟩ := hLI
  have hA : ∀ q : Nat, s.heap.size ≤ q → (fun q : Nat => s.heap.size ≤ q) q := fun _ h => h
  have hbA : ¬ (fun q : Nat => s.heap.size ≤ q) b := Nat.not_le.mpr hbl
  have hc0 : cells + 0 ≤ room_1.cells ∧ slots + 0 ≤ room_1.slots := ⟨Nat.le_trans (Nat.le_add_right _ _) hc1.1, Nat.le_trans (Nat.le_add_right _ _) hc1.2⟩
  refine lv_aload_n hx hb dL_law_544 rfl (lv_at hl 2 rfl) ?_
  refine lv_aload_n hx hb dL_law_545 rfl (lv_at hl 3 rfl) ?_
  refine lv_iload_n hx hb dL_law_546 rfl (lv_at hl 0 rfl) ?_
  refine lv_iconst (v := 1) hx hb dL_law_547 (by decide) ?_
  refine lv_iadd hx hb dL_law_548 ?_
  refine lv_topi (fun w1 ew1 => ?_)
  have hw1 : vp_in w1 N9 := vi_in (k := 1) (by decide) ew1 (by omega) (by omega) hN9
  refine va_sld hx hb hX hbl hbA hS hw1 dL_law_549 ?_
  refine ow_top (xs (i + 1).toNatClampNeg) (by rw [ew1]) ?_
  skip
  have hPD := fr_left hP hD
  have hFl := fr_leftF hD hS hA
  refine va_calli (va_runV (As := [.int (xs (i + 1).toNatClampNeg)]) (rest := []) ⟨hx, hb, hml, hown, ht⟩ (x_dealt l G cy _ L K _ T _ _ _ _ x (xs (i + 1).toNatClampNeg) hRT hI hE hx1 hx2 ) (cwV 1 ht (gv k_935 k_936 k_937 k_521 k_934) rfl rfl rfl (by decide +kernel) ⟨Nat.le_of_ble_eq_true rfl, Nat.le_of_ble_eq_true rfl⟩) ⟨En.blind, cr_0 hK hPD.1 hx1 hx2, fun U hU hW => ⟨rfl, En.of hU hW hPD.1 hK hPD.2 hN⟩⟩ rfl rfl hl.1 rfl (lv_room (Nat.le_of_ble_eq_true rfl)) dL_law_550 hc0) hS (fun q _ h => hFl q h) hFl (fun r2 u3 t9 H locs ht9 hvm hw hB hz1 hk1 hS => ?_)
  refine W.widen (k := cells) (n := slots) (Nat.le_refl _) (Nat.le_refl _) ?_
  obtain ⟨hP1, hD1⟩ := hB
  rw [ht9] at hP1
  obtain ⟨hP, hD⟩ := fr_l hP hD hFl hk1 hP1 hD1
  have hI := hw.1
  have hE := hw.2.1
  clear hPD hFl hz1 hk1 hw ht9 hvm hP1 hD1
  refine lv_pop hx hb dL_law_553 rfl ?_
  refine lv_aload_n hx hb dL_law_554 rfl (lv_at hl 1 rfl) ?_
  refine lv_aload_n hx hb dL_law_555 rfl (lv_at hl 3 rfl) ?_
  refine lv_iload_n hx hb dL_law_556 rfl (lv_at hl 0 rfl) ?_
  refine lv_iconst (v := 1) hx hb dL_law_557 (by decide) ?_
  refine lv_iadd hx hb dL_law_558 ?_
  refine lv_topi (fun w4 ew4 => ?_)
  have hw4 : vp_in w4 N9 := vi_in (k := 1) (by decide) ew4 (by omega) (by omega) hN9
  refine va_sld hx hb hX hbl hbA hS hw4 dL_law_559 ?_
  refine ow_top (xs (i + 1).toNatClampNeg) (by rw [ew4]) ?_
  skip
  have hPD := fr_left (fr_swP hP) (fr_swD hD)
  have hFl := fr_leftF (fr_swD hD) hS hA
  refine va_calli (va_runV (As := [.int (xs (i + 1).toNatClampNeg)]) (rest := []) ⟨hx, hb, hml, hown, ht⟩ (m_dealt l G cy _ mo h T _ _ _ _ (xs (i + 1).toNatClampNeg) hv hf hR hL ) (cwV 1 ht (gv k_939 k_940 k_941 k_61 k_938) rfl rfl rfl (by decide +kernel) ⟨Nat.le_of_ble_eq_true rfl, Nat.le_of_ble_eq_true rfl⟩) ⟨En.blind, va_recv hK hPD.1 (ci := 12) (q0 := 0) rfl rfl, fun U hU hW => ⟨rfl, En.of hU hW hPD.1 hK hPD.2 hN⟩⟩ rfl rfl hl.1 rfl (lv_room (Nat.le_of_ble_eq_true rfl)) dL_law_560 hc0) hS (fun q _ h => hFl q h) hFl (fun r5 u6 t9 H locs ht9 hvm hw hB hz1 hk1 hS => ?_)
  refine W.widen (k := cells) (n := slots) (Nat.le_refl _) (Nat.le_refl _) ?_
  obtain ⟨hP1, hD1⟩ := hB
  rw [ht9] at hP1
  obtain ⟨hP, hD⟩ := fr_r hP hD hFl hk1 hP1 hD1
  have hv := hw.1
  have hf := hw.2.1
  have hR := hw.2.2.1
  have hL := hw.2.2.2.1
  clear hPD hFl hz1 hk1 hw ht9 hvm hP1 hD1
  refine lv_pop hx hb dL_law_563 rfl ?_
  refine lv_goto (tgt := 1211) hx hb dL_law_564 (by decide) ?_
  refine W.widen (k := cells + 1) (n := slots + 11) (by omega) (by omega) ?_
  exact kk T _ _ hT ⟨_, _, _, _, _, _, _, _, _, hRT, hI, hE, hv, hf, hR, hL, hP, hD, hS⟩
set_option maxHeartbeats 4000000 in
set_option maxRecDepth 100000 in
theorem law_11 (l : Launch) (hx : p.tables.exec = Jvm.exec) (hb : c.code = code) (hr : meth.sig.returnType = ret) (hml : c.maxLocals = 4) (hown : s.vm.findClass RL = some m.cls) (ht : ∀ w ∈ TBg, w.before #[Value.ref b] s = true) (hX : va_X b N9 xs s s.heap) (hbl : b < s.heap.size) (hlocks : meth.locks = false) (hK : va_K G vwCl (TY cy) s) (hN : NK s) (hXK : XK cy tq qq wq fo (fun q : Nat => s.heap.size ≤ q) s) (hx1 : x ∈ L) (hx2 : K x = 0) (hUX : ∀ z, K z = 0 → z = x) (hN9 : N9 ≤ 3072) {i : Int32} {T : Int} {H : Heap} {locs : List Loc} {ls : Array Slot} {cells slots : Nat} (hi0 : 0 ≤ i.toInt) (hi1 : i.toInt + 6 ≤ N9) (hT : 0 ≤ T ∧ T ≤ 100000) (hLI : LI G cy s L K mo h T H locs) (hc1 : cells + 1 ≤ room_1.cells ∧ slots + 11 ≤ room_1.slots) (hl : lv_has ls 4 [(3, .int i), (2, .ref mo), (1, .ref x), (0, .ref b)]) (kk : ∀ (T9 : Int) (H : Heap) (locs : List Loc), 0 ≤ T9 ∧ T9 ≤ 100000 → LI G cy s L K mo h T9 H locs → W p l e room_1 s m #[Value.ref b] below meth c H locs (cells + 1) (slots + 11) (lw_Z below #[Value.ref b] s) (F0 m 1211 ls [])) : W p l e room_1 s m #[Value.ref b] below meth c H locs cells slots (lw_Z below #[Value.ref b] s) (F0 m 567 ls []) := by
  obtain ⟨R, I, J, E, B, v, nm, f, g, hRT, hI, hE, hv, hf, hR, hL, hP, hD, hS⟩ := hLI
  have hA : ∀ q : Nat, s.heap.size ≤ q → (fun q : Nat => s.heap.size ≤ q) q := fun _ h => h
  have hbA : ¬ (fun q : Nat => s.heap.size ≤ q) b := Nat.not_le.mpr hbl
  have hc0 : cells + 0 ≤ room_1.cells ∧ slots + 0 ≤ room_1.slots := ⟨Nat.le_trans (Nat.le_add_right _ _) hc1.1, Nat.le_trans (Nat.le_add_right _ _) hc1.2⟩
  refine lv_aload_n hx hb dL_law_567 rfl (lv_at hl 2 rfl) ?_
  refine lv_aload_n hx hb dL_law_568 rfl (lv_at hl 3 rfl) ?_
  refine lv_iload_n hx hb dL_law_569 rfl (lv_at hl 0 rfl) ?_
  refine lv_iconst (v := 1) hx hb dL_law_570 (by decide) ?_
  refine lv_iadd hx hb dL_law_571 ?_
  refine lv_topi (fun w1 ew1 => ?_)
  have hw1 : vp_in w1 N9 := vi_in (k := 1) (by decide) ew1 (by omega) (by omega) hN9
  refine va_sld hx hb hX hbl hbA hS hw1 dL_law_572 ?_
  refine ow_top (xs (i + 1).toNatClampNeg) (by rw [ew1]) ?_
  skip
  refine lv_aload_n hx hb dL_law_573 rfl (lv_at hl 3 rfl) ?_
  refine lv_iload_n hx hb dL_law_574 rfl (lv_at hl 0 rfl) ?_
  refine lv_iconst (v := 2) hx hb dL_law_575 (by decide) ?_
  refine lv_iadd hx hb dL_law_576 ?_
  refine lv_topi (fun w2 ew2 => ?_)
  have hw2 : vp_in w2 N9 := vi_in (k := 2) (by decide) ew2 (by omega) (by omega) hN9
  refine va_sld hx hb hX hbl hbA hS hw2 dL_law_577 ?_
  refine ow_top (xs (i + 2).toNatClampNeg) (by rw [ew2]) ?_
  skip
  have hPD := fr_left hP hD
  have hFl := fr_leftF hD hS hA
  refine va_calli (va_runV (As := [.int (xs (i + 1).toNatClampNeg), .int (xs (i + 2).toNatClampNeg)]) (rest := []) ⟨hx, hb, hml, hown, ht⟩ (x_master l G cy _ tq qq wq fo L K _ T _ _ _ _ x (xs (i + 1).toNatClampNeg) (xs (i + 2).toNatClampNeg) hRT hI hE hx1 hx2 ) (cwV 2 ht (gv k_943 k_944 k_945 k_521 k_942) rfl rfl rfl (by decide +kernel) ⟨Nat.le_of_ble_eq_true rfl, Nat.le_of_ble_eq_true rfl⟩) ⟨EnX.blind, cr_0 hK hPD.1 hx1 hx2, fun U hU hW => ⟨rfl, En.of hU hW hPD.1 hK hPD.2 hN, XK.of hXK hS hFl hU hW⟩⟩ rfl rfl hl.1 rfl (lv_room (Nat.le_of_ble_eq_true rfl)) dL_law_578 hc0) hS (fun q _ h => hFl q h) hFl (fun r3 u4 t9 H locs ht9 hvm hw hB hz1 hk1 hS => ?_)
  refine W.widen (k := cells) (n := slots) (Nat.le_refl _) (Nat.le_refl _) ?_
  obtain ⟨hP1, hD1⟩ := hB
  rw [ht9] at hP1
  obtain ⟨hP, hD⟩ := fr_l hP hD hFl hk1 hP1 hD1
  have hI := hw.1
  have hE := hw.2.1
  clear hPD hFl hz1 hk1 hw ht9 hvm hP1 hD1
  refine lv_pop hx hb dL_law_581 rfl ?_
  refine lv_aload_n hx hb dL_law_582 rfl (lv_at hl 1 rfl) ?_
  refine lv_aload_n hx hb dL_law_583 rfl (lv_at hl 3 rfl) ?_
  refine lv_iload_n hx hb dL_law_584 rfl (lv_at hl 0 rfl) ?_
  refine lv_iconst (v := 1) hx hb dL_law_585 (by decide) ?_
  refine lv_iadd hx hb dL_law_586 ?_
  refine lv_topi (fun w5 ew5 => ?_)
  have hw5 : vp_in w5 N9 := vi_in (k := 1) (by decide) ew5 (by omega) (by omega) hN9
  refine va_sld hx hb hX hbl hbA hS hw5 dL_law_587 ?_
  refine ow_top (xs (i + 1).toNatClampNeg) (by rw [ew5]) ?_
  skip
  refine lv_aload_n hx hb dL_law_588 rfl (lv_at hl 3 rfl) ?_
  refine lv_iload_n hx hb dL_law_589 rfl (lv_at hl 0 rfl) ?_
  refine lv_iconst (v := 2) hx hb dL_law_590 (by decide) ?_
  refine lv_iadd hx hb dL_law_591 ?_
  refine lv_topi (fun w6 ew6 => ?_)
  have hw6 : vp_in w6 N9 := vi_in (k := 2) (by decide) ew6 (by omega) (by omega) hN9
  refine va_sld hx hb hX hbl hbA hS hw6 dL_law_592 ?_
  refine ow_top (xs (i + 2).toNatClampNeg) (by rw [ew6]) ?_
  skip
  have hPD := fr_left (fr_swP hP) (fr_swD hD)
  have hFl := fr_leftF (fr_swD hD) hS hA
  refine va_calli (va_runV (As := [.int (xs (i + 1).toNatClampNeg), .int (xs (i + 2).toNatClampNeg)]) (rest := []) ⟨hx, hb, hml, hown, ht⟩ (m_master l G cy _ mo h T _ _ _ _ (xs (i + 1).toNatClampNeg) (xs (i + 2).toNatClampNeg) hv hf hR hL ) (cwV 2 ht (gv k_947 k_948 k_949 k_61 k_946) rfl rfl rfl (by decide +kernel) ⟨Nat.le_of_ble_eq_true rfl, Nat.le_of_ble_eq_true rfl⟩) ⟨En.blind, va_recv hK hPD.1 (ci := 12) (q0 := 0) rfl rfl, fun U hU hW => ⟨rfl, En.of hU hW hPD.1 hK hPD.2 hN⟩⟩ rfl rfl hl.1 rfl (lv_room (Nat.le_of_ble_eq_true rfl)) dL_law_593 hc0) hS (fun q _ h => hFl q h) hFl (fun r7 u8 t9 H locs ht9 hvm hw hB hz1 hk1 hS => ?_)
  refine W.widen (k := cells) (n := slots) (Nat.le_refl _) (Nat.le_refl _) ?_
  obtain ⟨hP1, hD1⟩ := hB
  rw [ht9] at hP1
  obtain ⟨hP, hD⟩ := fr_r hP hD hFl hk1 hP1 hD1
  have hv := hw.1
  have hf := hw.2.1
  have hR := hw.2.2.1
  have hL := hw.2.2.2.1
  clear hPD hFl hz1 hk1 hw ht9 hvm hP1 hD1
  refine lv_pop hx hb dL_law_596 rfl ?_
  refine lv_goto (tgt := 1211) hx hb dL_law_597 (by decide) ?_
  refine W.widen (k := cells + 1) (n := slots + 11) (by omega) (by omega) ?_
  exact kk T _ _ hT ⟨_, _, _, _, _, _, _, _, _, hRT, hI, hE, hv, hf, hR, hL, hP, hD, hS⟩
set_option maxHeartbeats 4000000 in
set_option maxRecDepth 100000 in
theorem law_12 (l : Launch) (hx : p.tables.exec = Jvm.exec) (hb : c.code = code) (hr : meth.sig.returnType = ret) (hml : c.maxLocals = 4) (hown : s.vm.findClass RL = some m.cls) (ht : ∀ w ∈ TBg, w.before #[Value.ref b] s = true) (hX : va_X b N9 xs s s.heap) (hbl : b < s.heap.size) (hlocks : meth.locks = false) (hK : va_K G vwCl (TY cy) s) (hN : NK s) (hXK : XK cy tq qq wq fo (fun q : Nat => s.heap.size ≤ q) s) (hx1 : x ∈ L) (hx2 : K x = 0) (hUX : ∀ z, K z = 0 → z = x) (hN9 : N9 ≤ 3072) {i : Int32} {T : Int} {H : Heap} {locs : List Loc} {ls : Array Slot} {cells slots : Nat} (hi0 : 0 ≤ i.toInt) (hi1 : i.toInt + 6 ≤ N9) (hT : 0 ≤ T ∧ T ≤ 100000) (hLI : LI G cy s L K mo h T H locs) (hc1 : cells + 1 ≤ room_1.cells ∧ slots + 11 ≤ room_1.slots) (hl : lv_has ls 4 [(3, .int i), (2, .ref mo), (1, .ref x), (0, .ref b)]) (kk : ∀ (T9 : Int) (H : Heap) (locs : List Loc), 0 ≤ T9 ∧ T9 ≤ 100000 → LI G cy s L K mo h T9 H locs → W p l e room_1 s m #[Value.ref b] below meth c H locs (cells + 1) (slots + 11) (lw_Z below #[Value.ref b] s) (F0 m 1211 ls [])) : W p l e room_1 s m #[Value.ref b] below meth c H locs cells slots (lw_Z below #[Value.ref b] s) (F0 m 600 ls []) := by
  obtain ⟨R, I, J, E, B, v, nm, f, g, hRT, hI, hE, hv, hf, hR, hL, hP, hD, hS⟩ := hLI
  have hA : ∀ q : Nat, s.heap.size ≤ q → (fun q : Nat => s.heap.size ≤ q) q := fun _ h => h
  have hbA : ¬ (fun q : Nat => s.heap.size ≤ q) b := Nat.not_le.mpr hbl
  have hc0 : cells + 0 ≤ room_1.cells ∧ slots + 0 ≤ room_1.slots := ⟨Nat.le_trans (Nat.le_add_right _ _) hc1.1, Nat.le_trans (Nat.le_add_right _ _) hc1.2⟩
  refine lv_aload_n hx hb dL_law_600 rfl (lv_at hl 2 rfl) ?_
  refine lv_aload_n hx hb dL_law_601 rfl (lv_at hl 3 rfl) ?_
  refine lv_iload_n hx hb dL_law_602 rfl (lv_at hl 0 rfl) ?_
  refine lv_iconst (v := 1) hx hb dL_law_603 (by decide) ?_
  refine lv_iadd hx hb dL_law_604 ?_
  refine lv_topi (fun w1 ew1 => ?_)
  have hw1 : vp_in w1 N9 := vi_in (k := 1) (by decide) ew1 (by omega) (by omega) hN9
  refine va_sld hx hb hX hbl hbA hS hw1 dL_law_605 ?_
  refine ow_top (xs (i + 1).toNatClampNeg) (by rw [ew1]) ?_
  skip
  refine lv_aload_n hx hb dL_law_606 rfl (lv_at hl 3 rfl) ?_
  refine lv_iload_n hx hb dL_law_607 rfl (lv_at hl 0 rfl) ?_
  refine lv_iconst (v := 2) hx hb dL_law_608 (by decide) ?_
  refine lv_iadd hx hb dL_law_609 ?_
  refine lv_topi (fun w2 ew2 => ?_)
  have hw2 : vp_in w2 N9 := vi_in (k := 2) (by decide) ew2 (by omega) (by omega) hN9
  refine va_sld hx hb hX hbl hbA hS hw2 dL_law_610 ?_
  refine ow_top (xs (i + 2).toNatClampNeg) (by rw [ew2]) ?_
  skip
  have hPD := fr_left hP hD
  have hFl := fr_leftF hD hS hA
  refine va_calli (va_runV (As := [.int (xs (i + 1).toNatClampNeg), .int (xs (i + 2).toNatClampNeg)]) (rest := []) ⟨hx, hb, hml, hown, ht⟩ (x_round l G cy _ L K _ T _ _ _ _ x (xs (i + 1).toNatClampNeg) (xs (i + 2).toNatClampNeg) hRT hI hE hx1 hx2 ) (cwV 2 ht (gv k_951 k_952 k_953 k_521 k_950) rfl rfl rfl (by decide +kernel) ⟨Nat.le_of_ble_eq_true rfl, Nat.le_of_ble_eq_true rfl⟩) ⟨En.blind, cr_0 hK hPD.1 hx1 hx2, fun U hU hW => ⟨rfl, En.of hU hW hPD.1 hK hPD.2 hN⟩⟩ rfl rfl hl.1 rfl (lv_room (Nat.le_of_ble_eq_true rfl)) dL_law_611 hc0) hS (fun q _ h => hFl q h) hFl (fun r3 u4 t9 H locs ht9 hvm hw hB hz1 hk1 hS => ?_)
  refine W.widen (k := cells) (n := slots) (Nat.le_refl _) (Nat.le_refl _) ?_
  obtain ⟨hP1, hD1⟩ := hB
  rw [ht9] at hP1
  obtain ⟨hP, hD⟩ := fr_l hP hD hFl hk1 hP1 hD1
  have hI := hw.1
  have hE := hw.2.1
  clear hPD hFl hz1 hk1 hw ht9 hvm hP1 hD1
  refine lv_pop hx hb dL_law_614 rfl ?_
  refine lv_aload_n hx hb dL_law_615 rfl (lv_at hl 1 rfl) ?_
  refine lv_aload_n hx hb dL_law_616 rfl (lv_at hl 3 rfl) ?_
  refine lv_iload_n hx hb dL_law_617 rfl (lv_at hl 0 rfl) ?_
  refine lv_iconst (v := 1) hx hb dL_law_618 (by decide) ?_
  refine lv_iadd hx hb dL_law_619 ?_
  refine lv_topi (fun w5 ew5 => ?_)
  have hw5 : vp_in w5 N9 := vi_in (k := 1) (by decide) ew5 (by omega) (by omega) hN9
  refine va_sld hx hb hX hbl hbA hS hw5 dL_law_620 ?_
  refine ow_top (xs (i + 1).toNatClampNeg) (by rw [ew5]) ?_
  skip
  refine lv_aload_n hx hb dL_law_621 rfl (lv_at hl 3 rfl) ?_
  refine lv_iload_n hx hb dL_law_622 rfl (lv_at hl 0 rfl) ?_
  refine lv_iconst (v := 2) hx hb dL_law_623 (by decide) ?_
  refine lv_iadd hx hb dL_law_624 ?_
  refine lv_topi (fun w6 ew6 => ?_)
  have hw6 : vp_in w6 N9 := vi_in (k := 2) (by decide) ew6 (by omega) (by omega) hN9
  refine va_sld hx hb hX hbl hbA hS hw6 dL_law_625 ?_
  refine ow_top (xs (i + 2).toNatClampNeg) (by rw [ew6]) ?_
  skip
  have hPD := fr_left (fr_swP hP) (fr_swD hD)
  have hFl := fr_leftF (fr_swD hD) hS hA
  have hFc := fr_new hS hA
  refine va_calli (va_runV (As := [.int (xs (i + 1).toNatClampNeg), .int (xs (i + 2).toNatClampNeg)]) (rest := []) ⟨hx, hb, hml, hown, ht⟩ (m_round l G cy _ mo h T _ _ _ _ (xs (i + 1).toNatClampNeg) (xs (i + 2).toNatClampNeg) hv hf hR hL ) (cwV 2 ht (gv k_955 k_956 k_957 k_61 k_954) rfl rfl rfl (by decide +kernel) ⟨Nat.le_of_ble_eq_true rfl, Nat.le_of_ble_eq_true rfl⟩) ⟨En.blind, va_recv hK hPD.1 (ci := 12) (q0 := 0) rfl rfl, fun U hU hW => ⟨rfl, En.of hU hW hPD.1 hK hPD.2 hN⟩⟩ rfl rfl hl.1 rfl (lv_room (Nat.le_of_ble_eq_true rfl)) dL_law_626 hc0) hS (fun q _ h => hFc q h) hFc (fun r7 u8 t9 H locs ht9 hvm hw hB hz1 hk1 hS => ?_)
  refine W.widen (k := cells) (n := slots) (Nat.le_refl _) (Nat.le_refl _) ?_
  have hP := fr_keep hP hk1
  clear hPD hFl hz1 hk1 hw ht9 hvm hFc
  refine lv_pop hx hb dL_law_629 rfl ?_
  refine lv_goto (tgt := 1211) hx hb dL_law_630 (by decide) ?_
  refine W.widen (k := cells + 1) (n := slots + 11) (by omega) (by omega) ?_
  exact kk T _ _ hT ⟨_, _, _, _, _, _, _, _, _, hRT, hI, hE, hv, hf, hR, hL, hP, hD, hS⟩
set_option maxHeartbeats 4000000 in
set_option maxRecDepth 100000 in
theorem law_13 (l : Launch) (hx : p.tables.exec = Jvm.exec) (hb : c.code = code) (hr : meth.sig.returnType = ret) (hml : c.maxLocals = 4) (hown : s.vm.findClass RL = some m.cls) (ht : ∀ w ∈ TBg, w.before #[Value.ref b] s = true) (hX : va_X b N9 xs s s.heap) (hbl : b < s.heap.size) (hlocks : meth.locks = false) (hK : va_K G vwCl (TY cy) s) (hN : NK s) (hXK : XK cy tq qq wq fo (fun q : Nat => s.heap.size ≤ q) s) (hx1 : x ∈ L) (hx2 : K x = 0) (hUX : ∀ z, K z = 0 → z = x) (hN9 : N9 ≤ 3072) {i : Int32} {T : Int} {H : Heap} {locs : List Loc} {ls : Array Slot} {cells slots : Nat} (hi0 : 0 ≤ i.toInt) (hi1 : i.toInt + 6 ≤ N9) (hT : 0 ≤ T ∧ T ≤ 100000) (hLI : LI G cy s L K mo h T H locs) (hc1 : cells + 1 ≤ room_1.cells ∧ slots + 11 ≤ room_1.slots) (hl : lv_has ls 4 [(3, .int i), (2, .ref mo), (1, .ref x), (0, .ref b)]) (kk : ∀ (T9 : Int) (H : Heap) (locs : List Loc), 0 ≤ T9 ∧ T9 ≤ 100000 → LI G cy s L K mo h T9 H locs → W p l e room_1 s m #[Value.ref b] below meth c H locs (cells + 1) (slots + 11) (lw_Z below #[Value.ref b] s) (F0 m 1211 ls [])) : W p l e room_1 s m #[Value.ref b] below meth c H locs cells slots (lw_Z below #[Value.ref b] s) (F0 m 633 ls []) := by
  obtain ⟨R, I, J, E, B, v, nm, f, g, hRT, hI, hE, hv, hf, hR, hL, hP, hD, hS⟩ := hLI
  have hA : ∀ q : Nat, s.heap.size ≤ q → (fun q : Nat => s.heap.size ≤ q) q := fun _ h => h
  have hbA : ¬ (fun q : Nat => s.heap.size ≤ q) b := Nat.not_le.mpr hbl
  have hc0 : cells + 0 ≤ room_1.cells ∧ slots + 0 ≤ room_1.slots := ⟨Nat.le_trans (Nat.le_add_right _ _) hc1.1, Nat.le_trans (Nat.le_add_right _ _) hc1.2⟩
  refine lv_aload_n hx hb dL_law_633 rfl (lv_at hl 2 rfl) ?_
  refine lv_aload_n hx hb dL_law_634 rfl (lv_at hl 3 rfl) ?_
  refine lv_iload_n hx hb dL_law_635 rfl (lv_at hl 0 rfl) ?_
  refine lv_iconst (v := 1) hx hb dL_law_636 (by decide) ?_
  refine lv_iadd hx hb dL_law_637 ?_
  refine lv_topi (fun w1 ew1 => ?_)
  have hw1 : vp_in w1 N9 := vi_in (k := 1) (by decide) ew1 (by omega) (by omega) hN9
  refine va_sld hx hb hX hbl hbA hS hw1 dL_law_638 ?_
  refine ow_top (xs (i + 1).toNatClampNeg) (by rw [ew1]) ?_
  skip
  refine lv_aload_n hx hb dL_law_639 rfl (lv_at hl 3 rfl) ?_
  refine lv_iload_n hx hb dL_law_640 rfl (lv_at hl 0 rfl) ?_
  refine lv_iconst (v := 2) hx hb dL_law_641 (by decide) ?_
  refine lv_iadd hx hb dL_law_642 ?_
  refine lv_topi (fun w2 ew2 => ?_)
  have hw2 : vp_in w2 N9 := vi_in (k := 2) (by decide) ew2 (by omega) (by omega) hN9
  refine va_sld hx hb hX hbl hbA hS hw2 dL_law_643 ?_
  refine ow_top (xs (i + 2).toNatClampNeg) (by rw [ew2]) ?_
  skip
  have hPD := fr_left hP hD
  have hFl := fr_leftF hD hS hA
  refine va_calli (va_runV (As := [.int (xs (i + 1).toNatClampNeg), .int (xs (i + 2).toNatClampNeg)]) (rest := []) ⟨hx, hb, hml, hown, ht⟩ (x_good l G cy _ L K _ T _ _ _ _ x (xs (i + 1).toNatClampNeg) (xs (i + 2).toNatClampNeg) hRT hI hE hx1 hx2 ) (cwV 2 ht (gv k_959 k_960 k_961 k_521 k_958) rfl rfl rfl (by decide +kernel) ⟨Nat.le_of_ble_eq_true rfl, Nat.le_of_ble_eq_true rfl⟩) ⟨En.blind, cr_0 hK hPD.1 hx1 hx2, fun U hU hW => ⟨rfl, En.of hU hW hPD.1 hK hPD.2 hN⟩⟩ rfl rfl hl.1 rfl (lv_room (Nat.le_of_ble_eq_true rfl)) dL_law_644 hc0) hS (fun q _ h => hFl q h) hFl (fun r3 u4 t9 H locs ht9 hvm hw hB hz1 hk1 hS => ?_)
  refine W.widen (k := cells) (n := slots) (Nat.le_refl _) (Nat.le_refl _) ?_
  obtain ⟨hP1, hD1⟩ := hB
  rw [ht9] at hP1
  obtain ⟨hP, hD⟩ := fr_l hP hD hFl hk1 hP1 hD1
  have hI := hw.1
  have hE := hw.2.1
  clear hPD hFl hz1 hk1 hw ht9 hvm hP1 hD1
  refine lv_pop hx hb dL_law_647 rfl ?_
  refine lv_aload_n hx hb dL_law_648 rfl (lv_at hl 1 rfl) ?_
  refine lv_aload_n hx hb dL_law_649 rfl (lv_at hl 3 rfl) ?_
  refine lv_iload_n hx hb dL_law_650 rfl (lv_at hl 0 rfl) ?_
  refine lv_iconst (v := 1) hx hb dL_law_651 (by decide) ?_
  refine lv_iadd hx hb dL_law_652 ?_
  refine lv_topi (fun w5 ew5 => ?_)
  have hw5 : vp_in w5 N9 := vi_in (k := 1) (by decide) ew5 (by omega) (by omega) hN9
  refine va_sld hx hb hX hbl hbA hS hw5 dL_law_653 ?_
  refine ow_top (xs (i + 1).toNatClampNeg) (by rw [ew5]) ?_
  skip
  refine lv_aload_n hx hb dL_law_654 rfl (lv_at hl 3 rfl) ?_
  refine lv_iload_n hx hb dL_law_655 rfl (lv_at hl 0 rfl) ?_
  refine lv_iconst (v := 2) hx hb dL_law_656 (by decide) ?_
  refine lv_iadd hx hb dL_law_657 ?_
  refine lv_topi (fun w6 ew6 => ?_)
  have hw6 : vp_in w6 N9 := vi_in (k := 2) (by decide) ew6 (by omega) (by omega) hN9
  refine va_sld hx hb hX hbl hbA hS hw6 dL_law_658 ?_
  refine ow_top (xs (i + 2).toNatClampNeg) (by rw [ew6]) ?_
  skip
  have hPD := fr_left (fr_swP hP) (fr_swD hD)
  have hFl := fr_leftF (fr_swD hD) hS hA
  have hFc := fr_new hS hA
  refine va_calli (va_runV (As := [.int (xs (i + 1).toNatClampNeg), .int (xs (i + 2).toNatClampNeg)]) (rest := []) ⟨hx, hb, hml, hown, ht⟩ (m_good l G cy _ mo h T _ _ _ _ (xs (i + 1).toNatClampNeg) (xs (i + 2).toNatClampNeg) hv hf hR hL ) (cwV 2 ht (gv k_963 k_964 k_965 k_61 k_962) rfl rfl rfl (by decide +kernel) ⟨Nat.le_of_ble_eq_true rfl, Nat.le_of_ble_eq_true rfl⟩) ⟨En.blind, va_recv hK hPD.1 (ci := 12) (q0 := 0) rfl rfl, fun U hU hW => ⟨rfl, En.of hU hW hPD.1 hK hPD.2 hN⟩⟩ rfl rfl hl.1 rfl (lv_room (Nat.le_of_ble_eq_true rfl)) dL_law_659 hc0) hS (fun q _ h => hFc q h) hFc (fun r7 u8 t9 H locs ht9 hvm hw hB hz1 hk1 hS => ?_)
  refine W.widen (k := cells) (n := slots) (Nat.le_refl _) (Nat.le_refl _) ?_
  have hP := fr_keep hP hk1
  clear hPD hFl hz1 hk1 hw ht9 hvm hFc
  refine lv_pop hx hb dL_law_662 rfl ?_
  refine lv_goto (tgt := 1211) hx hb dL_law_663 (by decide) ?_
  refine W.widen (k := cells + 1) (n := slots + 11) (by omega) (by omega) ?_
  exact kk T _ _ hT ⟨_, _, _, _, _, _, _, _, _, hRT, hI, hE, hv, hf, hR, hL, hP, hD, hS⟩
set_option maxHeartbeats 4000000 in
set_option maxRecDepth 100000 in
theorem law_14 (l : Launch) (hx : p.tables.exec = Jvm.exec) (hb : c.code = code) (hr : meth.sig.returnType = ret) (hml : c.maxLocals = 4) (hown : s.vm.findClass RL = some m.cls) (ht : ∀ w ∈ TBg, w.before #[Value.ref b] s = true) (hX : va_X b N9 xs s s.heap) (hbl : b < s.heap.size) (hlocks : meth.locks = false) (hK : va_K G vwCl (TY cy) s) (hN : NK s) (hXK : XK cy tq qq wq fo (fun q : Nat => s.heap.size ≤ q) s) (hx1 : x ∈ L) (hx2 : K x = 0) (hUX : ∀ z, K z = 0 → z = x) (hN9 : N9 ≤ 3072) {i : Int32} {T : Int} {H : Heap} {locs : List Loc} {ls : Array Slot} {cells slots : Nat} (hi0 : 0 ≤ i.toInt) (hi1 : i.toInt + 6 ≤ N9) (hT : 0 ≤ T ∧ T ≤ 100000) (hLI : LI G cy s L K mo h T H locs) (hc1 : cells + 1 ≤ room_1.cells ∧ slots + 11 ≤ room_1.slots) (hl : lv_has ls 4 [(3, .int i), (2, .ref mo), (1, .ref x), (0, .ref b)]) (kk : ∀ (T9 : Int) (H : Heap) (locs : List Loc), 0 ≤ T9 ∧ T9 ≤ 100000 → LI G cy s L K mo h T9 H locs → W p l e room_1 s m #[Value.ref b] below meth c H locs (cells + 1) (slots + 11) (lw_Z below #[Value.ref b] s) (F0 m 1211 ls [])) : W p l e room_1 s m #[Value.ref b] below meth c H locs cells slots (lw_Z below #[Value.ref b] s) (F0 m 666 ls []) := by
  obtain ⟨R, I, J, E, B, v, nm, f, g, hRT, hI, hE, hv, hf, hR, hL, hP, hD, hS⟩ := hLI
  have hA : ∀ q : Nat, s.heap.size ≤ q → (fun q : Nat => s.heap.size ≤ q) q := fun _ h => h
  have hbA : ¬ (fun q : Nat => s.heap.size ≤ q) b := Nat.not_le.mpr hbl
  have hc0 : cells + 0 ≤ room_1.cells ∧ slots + 0 ≤ room_1.slots := ⟨Nat.le_trans (Nat.le_add_right _ _) hc1.1, Nat.le_trans (Nat.le_add_right _ _) hc1.2⟩
  refine lv_aload_n hx hb dL_law_666 rfl (lv_at hl 2 rfl) ?_
  refine lv_aload_n hx hb dL_law_667 rfl (lv_at hl 3 rfl) ?_
  refine lv_iload_n hx hb dL_law_668 rfl (lv_at hl 0 rfl) ?_
  refine lv_iconst (v := 1) hx hb dL_law_669 (by decide) ?_
  refine lv_iadd hx hb dL_law_670 ?_
  refine lv_topi (fun w1 ew1 => ?_)
  have hw1 : vp_in w1 N9 := vi_in (k := 1) (by decide) ew1 (by omega) (by omega) hN9
  refine va_sld hx hb hX hbl hbA hS hw1 dL_law_671 ?_
  refine ow_top (xs (i + 1).toNatClampNeg) (by rw [ew1]) ?_
  skip
  refine lv_aload_n hx hb dL_law_672 rfl (lv_at hl 3 rfl) ?_
  refine lv_iload_n hx hb dL_law_673 rfl (lv_at hl 0 rfl) ?_
  refine lv_iconst (v := 2) hx hb dL_law_674 (by decide) ?_
  refine lv_iadd hx hb dL_law_675 ?_
  refine lv_topi (fun w2 ew2 => ?_)
  have hw2 : vp_in w2 N9 := vi_in (k := 2) (by decide) ew2 (by omega) (by omega) hN9
  refine va_sld hx hb hX hbl hbA hS hw2 dL_law_676 ?_
  refine ow_top (xs (i + 2).toNatClampNeg) (by rw [ew2]) ?_
  skip
  refine lv_aload_n hx hb dL_law_677 rfl (lv_at hl 3 rfl) ?_
  refine lv_iload_n hx hb dL_law_678 rfl (lv_at hl 0 rfl) ?_
  refine lv_iconst (v := 3) hx hb dL_law_679 (by decide) ?_
  refine lv_iadd hx hb dL_law_680 ?_
  refine lv_topi (fun w3 ew3 => ?_)
  have hw3 : vp_in w3 N9 := vi_in (k := 3) (by decide) ew3 (by omega) (by omega) hN9
  refine va_sld hx hb hX hbl hbA hS hw3 dL_law_681 ?_
  refine ow_top (xs (i + 3).toNatClampNeg) (by rw [ew3]) ?_
  skip
  have hPD := fr_left hP hD
  have hFl := fr_leftF hD hS hA
  have hFc := fr_new hS hA
  refine va_calli (va_runV (As := [.int (xs (i + 1).toNatClampNeg), .int (xs (i + 2).toNatClampNeg), .int (xs (i + 3).toNatClampNeg)]) (rest := []) ⟨hx, hb, hml, hown, ht⟩ (x_deaf l G cy _ L K _ T _ _ _ _ x (xs (i + 1).toNatClampNeg) (xs (i + 2).toNatClampNeg) (xs (i + 3).toNatClampNeg) hRT hI hE hx1 hx2 ) (cwV 3 ht (gv k_967 k_968 k_969 k_521 k_966) rfl rfl rfl (by decide +kernel) ⟨Nat.le_of_ble_eq_true rfl, Nat.le_of_ble_eq_true rfl⟩) ⟨En.blind, cr_0 hK hPD.1 hx1 hx2, fun U hU hW => ⟨rfl, En.of hU hW hPD.1 hK hPD.2 hN⟩⟩ rfl rfl hl.1 rfl (lv_room (Nat.le_of_ble_eq_true rfl)) dL_law_682 hc0) hS (fun q _ h => hFc q h) hFc (fun r4 u5 t9 H locs ht9 hvm hw hB hz1 hk1 hS => ?_)
  refine W.widen (k := cells) (n := slots) (Nat.le_refl _) (Nat.le_refl _) ?_
  have hP := fr_keep hP hk1
  clear hPD hFl hz1 hk1 hw ht9 hvm hFc
  refine lv_pop hx hb dL_law_685 rfl ?_
  refine lv_aload_n hx hb dL_law_686 rfl (lv_at hl 1 rfl) ?_
  refine lv_aload_n hx hb dL_law_687 rfl (lv_at hl 3 rfl) ?_
  refine lv_iload_n hx hb dL_law_688 rfl (lv_at hl 0 rfl) ?_
  refine lv_iconst (v := 1) hx hb dL_law_689 (by decide) ?_
  refine lv_iadd hx hb dL_law_690 ?_
  refine lv_topi (fun w6 ew6 => ?_)
  have hw6 : vp_in w6 N9 := vi_in (k := 1) (by decide) ew6 (by omega) (by omega) hN9
  refine va_sld hx hb hX hbl hbA hS hw6 dL_law_691 ?_
  refine ow_top (xs (i + 1).toNatClampNeg) (by rw [ew6]) ?_
  skip
  refine lv_aload_n hx hb dL_law_692 rfl (lv_at hl 3 rfl) ?_
  refine lv_iload_n hx hb dL_law_693 rfl (lv_at hl 0 rfl) ?_
  refine lv_iconst (v := 2) hx hb dL_law_694 (by decide) ?_
  refine lv_iadd hx hb dL_law_695 ?_
  refine lv_topi (fun w7 ew7 => ?_)
  have hw7 : vp_in w7 N9 := vi_in (k := 2) (by decide) ew7 (by omega) (by omega) hN9
  refine va_sld hx hb hX hbl hbA hS hw7 dL_law_696 ?_
  refine ow_top (xs (i + 2).toNatClampNeg) (by rw [ew7]) ?_
  skip
  refine lv_aload_n hx hb dL_law_697 rfl (lv_at hl 3 rfl) ?_
  refine lv_iload_n hx hb dL_law_698 rfl (lv_at hl 0 rfl) ?_
  refine lv_iconst (v := 3) hx hb dL_law_699 (by decide) ?_
  refine lv_iadd hx hb dL_law_700 ?_
  refine lv_topi (fun w8 ew8 => ?_)
  have hw8 : vp_in w8 N9 := vi_in (k := 3) (by decide) ew8 (by omega) (by omega) hN9
  refine va_sld hx hb hX hbl hbA hS hw8 dL_law_701 ?_
  refine ow_top (xs (i + 3).toNatClampNeg) (by rw [ew8]) ?_
  skip
  have hPD := fr_left (fr_swP hP) (fr_swD hD)
  have hFl := fr_leftF (fr_swD hD) hS hA
  have hFc := fr_new hS hA
  refine va_calli (va_runV (As := [.int (xs (i + 1).toNatClampNeg), .int (xs (i + 2).toNatClampNeg), .int (xs (i + 3).toNatClampNeg)]) (rest := []) ⟨hx, hb, hml, hown, ht⟩ (m_deaf l G cy _ mo h T _ _ _ _ (xs (i + 1).toNatClampNeg) (xs (i + 2).toNatClampNeg) (xs (i + 3).toNatClampNeg) hv hf hR hL ) (cwV 3 ht (gv k_971 k_972 k_973 k_61 k_970) rfl rfl rfl (by decide +kernel) ⟨Nat.le_of_ble_eq_true rfl, Nat.le_of_ble_eq_true rfl⟩) ⟨En.blind, va_recv hK hPD.1 (ci := 12) (q0 := 0) rfl rfl, fun U hU hW => ⟨rfl, En.of hU hW hPD.1 hK hPD.2 hN⟩⟩ rfl rfl hl.1 rfl (lv_room (Nat.le_of_ble_eq_true rfl)) dL_law_702 hc0) hS (fun q _ h => hFc q h) hFc (fun r9 u10 t9 H locs ht9 hvm hw hB hz1 hk1 hS => ?_)
  refine W.widen (k := cells) (n := slots) (Nat.le_refl _) (Nat.le_refl _) ?_
  have hP := fr_keep hP hk1
  clear hPD hFl hz1 hk1 hw ht9 hvm hFc
  refine lv_pop hx hb dL_law_705 rfl ?_
  refine lv_goto (tgt := 1211) hx hb dL_law_706 (by decide) ?_
  refine W.widen (k := cells + 1) (n := slots + 11) (by omega) (by omega) ?_
  exact kk T _ _ hT ⟨_, _, _, _, _, _, _, _, _, hRT, hI, hE, hv, hf, hR, hL, hP, hD, hS⟩
set_option maxHeartbeats 4000000 in
set_option maxRecDepth 100000 in
theorem law_15 (l : Launch) (hx : p.tables.exec = Jvm.exec) (hb : c.code = code) (hr : meth.sig.returnType = ret) (hml : c.maxLocals = 4) (hown : s.vm.findClass RL = some m.cls) (ht : ∀ w ∈ TBg, w.before #[Value.ref b] s = true) (hX : va_X b N9 xs s s.heap) (hbl : b < s.heap.size) (hlocks : meth.locks = false) (hK : va_K G vwCl (TY cy) s) (hN : NK s) (hXK : XK cy tq qq wq fo (fun q : Nat => s.heap.size ≤ q) s) (hx1 : x ∈ L) (hx2 : K x = 0) (hUX : ∀ z, K z = 0 → z = x) (hN9 : N9 ≤ 3072) {i : Int32} {T : Int} {H : Heap} {locs : List Loc} {ls : Array Slot} {cells slots : Nat} (hi0 : 0 ≤ i.toInt) (hi1 : i.toInt + 6 ≤ N9) (hT : 0 ≤ T ∧ T ≤ 100000) (hLI : LI G cy s L K mo h T H locs) (hc1 : cells + 1 ≤ room_1.cells ∧ slots + 11 ≤ room_1.slots) (hl : lv_has ls 4 [(3, .int i), (2, .ref mo), (1, .ref x), (0, .ref b)]) (kk : ∀ (T9 : Int) (H : Heap) (locs : List Loc), 0 ≤ T9 ∧ T9 ≤ 100000 → LI G cy s L K mo h T9 H locs → W p l e room_1 s m #[Value.ref b] below meth c H locs (cells + 1) (slots + 11) (lw_Z below #[Value.ref b] s) (F0 m 1211 ls [])) : W p l e room_1 s m #[Value.ref b] below meth c H locs cells slots (lw_Z below #[Value.ref b] s) (F0 m 709 ls []) := by
  obtain ⟨R, I, J, E, B, v, nm, f, g, hRT, hI, hE, hv, hf, hR, hL, hP, hD, hS⟩ := hLI
  have hA : ∀ q : Nat, s.heap.size ≤ q → (fun q : Nat => s.heap.size ≤ q) q := fun _ h => h
  have hbA : ¬ (fun q : Nat => s.heap.size ≤ q) b := Nat.not_le.mpr hbl
  have hc0 : cells + 0 ≤ room_1.cells ∧ slots + 0 ≤ room_1.slots := ⟨Nat.le_trans (Nat.le_add_right _ _) hc1.1, Nat.le_trans (Nat.le_add_right _ _) hc1.2⟩
  refine lv_aload_n hx hb dL_law_709 rfl (lv_at hl 2 rfl) ?_
  refine lv_aload_n hx hb dL_law_710 rfl (lv_at hl 3 rfl) ?_
  refine lv_iload_n hx hb dL_law_711 rfl (lv_at hl 0 rfl) ?_
  refine lv_iconst (v := 1) hx hb dL_law_712 (by decide) ?_
  refine lv_iadd hx hb dL_law_713 ?_
  refine lv_topi (fun w1 ew1 => ?_)
  have hw1 : vp_in w1 N9 := vi_in (k := 1) (by decide) ew1 (by omega) (by omega) hN9
  refine va_sld hx hb hX hbl hbA hS hw1 dL_law_714 ?_
  refine ow_top (xs (i + 1).toNatClampNeg) (by rw [ew1]) ?_
  skip
  refine lv_aload_n hx hb dL_law_715 rfl (lv_at hl 3 rfl) ?_
  refine lv_iload_n hx hb dL_law_716 rfl (lv_at hl 0 rfl) ?_
  refine lv_iconst (v := 2) hx hb dL_law_717 (by decide) ?_
  refine lv_iadd hx hb dL_law_718 ?_
  refine lv_topi (fun w2 ew2 => ?_)
  have hw2 : vp_in w2 N9 := vi_in (k := 2) (by decide) ew2 (by omega) (by omega) hN9
  refine va_sld hx hb hX hbl hbA hS hw2 dL_law_719 ?_
  refine ow_top (xs (i + 2).toNatClampNeg) (by rw [ew2]) ?_
  skip
  have hj3 : ∀ bz4 : Int32, 0 ≤ bz4.toInt ∧ bz4.toInt ≤ 1 → W p l e room_1 s m #[Value.ref b] below meth c H locs cells slots (lw_Z below #[Value.ref b] s) (F0 m 728 ls [.int bz4, .int (xs (i + 1).toNatClampNeg), .ref x]) := by
    intro bz4 hbz4
    have hPD := fr_left hP hD
    have hFl := fr_leftF hD hS hA
    refine va_calli (va_runV (As := [.int (xs (i + 1).toNatClampNeg), .int bz4]) (rest := []) ⟨hx, hb, hml, hown, ht⟩ (x_least l G cy _ L K _ T _ _ _ _ x (xs (i + 1).toNatClampNeg) bz4 hRT hI hE hx1 hx2 hbz4) (cwV 2 ht (gv k_975 k_976 k_977 k_521 k_974) rfl rfl rfl (by decide +kernel) ⟨Nat.le_of_ble_eq_true rfl, Nat.le_of_ble_eq_true rfl⟩) ⟨En.blind, cr_0 hK hPD.1 hx1 hx2, fun U hU hW => ⟨rfl, En.of hU hW hPD.1 hK hPD.2 hN⟩⟩ rfl rfl hl.1 rfl (lv_room (Nat.le_of_ble_eq_true rfl)) dL_law_728 hc0) hS (fun q _ h => hFl q h) hFl (fun r5 u6 t9 H locs ht9 hvm hw hB hz1 hk1 hS => ?_)
    refine W.widen (k := cells) (n := slots) (Nat.le_refl _) (Nat.le_refl _) ?_
    obtain ⟨hP1, hD1⟩ := hB
    rw [ht9] at hP1
    obtain ⟨hP, hD⟩ := fr_l hP hD hFl hk1 hP1 hD1
    have hI := hw.1
    have hE := hw.2.1
    clear hPD hFl hz1 hk1 hw ht9 hvm hP1 hD1
    refine lv_pop hx hb dL_law_731 rfl ?_
    refine lv_aload_n hx hb dL_law_732 rfl (lv_at hl 1 rfl) ?_
    refine lv_aload_n hx hb dL_law_733 rfl (lv_at hl 3 rfl) ?_
    refine lv_iload_n hx hb dL_law_734 rfl (lv_at hl 0 rfl) ?_
    refine lv_iconst (v := 1) hx hb dL_law_735 (by decide) ?_
    refine lv_iadd hx hb dL_law_736 ?_
    refine lv_topi (fun w7 ew7 => ?_)
    have hw7 : vp_in w7 N9 := vi_in (k := 1) (by decide) ew7 (by omega) (by omega) hN9
    refine va_sld hx hb hX hbl hbA hS hw7 dL_law_737 ?_
    refine ow_top (xs (i + 1).toNatClampNeg) (by rw [ew7]) ?_
    skip
    refine lv_aload_n hx hb dL_law_738 rfl (lv_at hl 3 rfl) ?_
    refine lv_iload_n hx hb dL_law_739 rfl (lv_at hl 0 rfl) ?_
    refine lv_iconst (v := 2) hx hb dL_law_740 (by decide) ?_
    refine lv_iadd hx hb dL_law_741 ?_
    refine lv_topi (fun w8 ew8 => ?_)
    have hw8 : vp_in w8 N9 := vi_in (k := 2) (by decide) ew8 (by omega) (by omega) hN9
    refine va_sld hx hb hX hbl hbA hS hw8 dL_law_742 ?_
    refine ow_top (xs (i + 2).toNatClampNeg) (by rw [ew8]) ?_
    skip
    have hj9 : ∀ bz10 : Int32, 0 ≤ bz10.toInt ∧ bz10.toInt ≤ 1 → W p l e room_1 s m #[Value.ref b] below meth c H locs cells slots (lw_Z below #[Value.ref b] s) (F0 m 751 ls [.int bz10, .int (xs (i + 1).toNatClampNeg), .ref mo]) := by
      intro bz10 hbz10
      have hPD := fr_left (fr_swP hP) (fr_swD hD)
      have hFl := fr_leftF (fr_swD hD) hS hA
      refine va_calli (va_runV (As := [.int (xs (i + 1).toNatClampNeg), .int bz10]) (rest := []) ⟨hx, hb, hml, hown, ht⟩ (m_least l G cy _ mo h T _ _ _ _ (xs (i + 1).toNatClampNeg) bz10 hv hf hR hL ) (cwV 2 ht (gv k_979 k_980 k_981 k_61 k_978) rfl rfl rfl (by decide +kernel) ⟨Nat.le_of_ble_eq_true rfl, Nat.le_of_ble_eq_true rfl⟩) ⟨En.blind, va_recv hK hPD.1 (ci := 12) (q0 := 0) rfl rfl, fun U hU hW => ⟨rfl, En.of hU hW hPD.1 hK hPD.2 hN⟩⟩ rfl rfl hl.1 rfl (lv_room (Nat.le_of_ble_eq_true rfl)) dL_law_751 hc0) hS (fun q _ h => hFl q h) hFl (fun r11 u12 t9 H locs ht9 hvm hw hB hz1 hk1 hS => ?_)
      refine W.widen (k := cells) (n := slots) (Nat.le_refl _) (Nat.le_refl _) ?_
      obtain ⟨hP1, hD1⟩ := hB
      rw [ht9] at hP1
      obtain ⟨hP, hD⟩ := fr_r hP hD hFl hk1 hP1 hD1
      have hf := MIf.any hf u12
      have hR := RI.up 28 (w := u12) hR (by decide)
      have hL := WL.upf 28 (w := u12) hL (by decide)
      clear hPD hFl hz1 hk1 hw ht9 hvm hP1 hD1
      refine lv_pop hx hb dL_law_754 rfl ?_
      refine lv_goto (tgt := 1211) hx hb dL_law_755 (by decide) ?_
      refine W.widen (k := cells + 1) (n := slots + 11) (by omega) (by omega) ?_
      exact kk T _ _ hT ⟨_, _, _, _, _, _, _, _, _, hRT, hI, hE, hv, hf, hR, hL, hP, hD, hS⟩
    refine lv_if_eq (tgt := 750) hx hb dL_law_743 (by decide) (fun _ => ?_) (fun _ => ?_)
    · refine lv_iconst (v := 0) hx hb dL_law_750 (by decide) ?_
      exact hj9 0 (by decide)
    · refine lv_iconst (v := 1) hx hb dL_law_746 (by decide) ?_
      refine lv_goto (tgt := 751) hx hb dL_law_747 (by decide) ?_
      exact hj9 1 (by decide)
  refine lv_if_eq (tgt := 727) hx hb dL_law_720 (by decide) (fun _ => ?_) (fun _ => ?_)
  · refine lv_iconst (v := 0) hx hb dL_law_727 (by decide) ?_
    exact hj3 0 (by decide)
  · refine lv_iconst (v := 1) hx hb dL_law_723 (by decide) ?_
    refine lv_goto (tgt := 728) hx hb dL_law_724 (by decide) ?_
    exact hj3 1 (by decide)
end LAWS
