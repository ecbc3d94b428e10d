theorem k_617 : (Cond.instantiable RX11 14) ∈ TBg := tb_mem 106 (by decide +kernel) (by decide +kernel)
theorem k_618 : (Cond.instantiable RX12 58) ∈ TBg := tb_mem 1008 (by decide +kernel) (by decide +kernel)
theorem k_619 : (Cond.classLink RL 7 RX11) ∈ TBg := tb_mem 105 (by decide +kernel) (by decide +kernel)
theorem k_620 : (Cond.code yX11_init cX11_init 2 none) ∈ TBg := tb_mem 109 (by decide +kernel) (by decide +kernel)
theorem k_621 : (Cond.methodLink RL 9 yX11_init) ∈ TBg := tb_mem 107 (by decide +kernel) (by decide +kernel)
theorem k_622 : (Cond.instanceMethod yX11_init) ∈ TBg := tb_mem 108 (by decide +kernel) (by decide +kernel)
theorem k_623 : (Cond.classLink RL 10 RX12) ∈ TBg := tb_mem 1007 (by decide +kernel) (by decide +kernel)
theorem k_624 : (Cond.code yX12_init cX12_init 2 none) ∈ TBg := tb_mem 1011 (by decide +kernel) (by decide +kernel)
theorem k_625 : (Cond.methodLink RL 12 yX12_init) ∈ TBg := tb_mem 1009 (by decide +kernel) (by decide +kernel)
theorem k_626 : (Cond.instanceMethod yX12_init) ∈ TBg := tb_mem 1010 (by decide +kernel) (by decide +kernel)
theorem dL_law_0 : decode code 0 = .ok (.new 7, 3) := by decide +kernel
theorem dL_law_3 : decode code 3 = .ok (.dup, 1) := by decide +kernel
theorem dL_law_4 : decode code 4 = .ok (.invokespecial 9, 3) := by decide +kernel
theorem dL_law_7 : decode code 7 = .ok (.astore_n 1, 1) := by decide +kernel
theorem dL_law_8 : decode code 8 = .ok (.new 10, 3) := by decide +kernel
theorem dL_law_11 : decode code 11 = .ok (.dup, 1) := by decide +kernel
theorem dL_law_12 : decode code 12 = .ok (.invokespecial 12, 3) := by decide +kernel
theorem dL_law_15 : decode code 15 = .ok (.astore_n 2, 1) := by decide +kernel
theorem dL_law_16 : decode code 16 = .ok (.iconst 0, 1) := by decide +kernel
theorem dL_law_17 : decode code 17 = .ok (.istore_n 3, 1) := by decide +kernel
theorem dL_law_27 : decode code 27 = .ok (.aload_n 0, 1) := by decide +kernel
theorem dL_law_28 : decode code 28 = .ok (.iload_n 3, 1) := by decide +kernel
theorem dL_law_29 : decode code 29 = .ok (.iaload, 1) := by decide +kernel
theorem dL_law_30 : decode code 30 = .ok (.bipush 31, 2) := by decide +kernel
theorem dL_law_32 : decode code 32 = .ok (.iand, 1) := by decide +kernel
theorem dL_law_33 : decode code 33 = .ok (.tableswitch 1178 0 30 #[139, 202, 225, 238, 261, 284, 317, 360, 403, 452, 511, 534, 567, 600, 633, 676, 725, 758, 791, 804, 827, 866, 899, 932, 1007, 1030, 1053, 1076, 1109, 1132, 1155], 139) := by decide +kernel
theorem tbl_list {ws : List Cond} (ps : List Nat) (h : ws = ps.filterMap (fun i => lw_tbl[i]?)) : ∀ w ∈ ws, w ∈ lw_tbl := fun w hw => by
  rw [h] at hw
  obtain ⟨i, -, hi⟩ := List.mem_filterMap.mp hw
  exact List.mem_of_getElem? hi
theorem nst_in : ∀ w ∈ nst, w ∈ lw_tbl := tbl_list [299, 262, 244, 172, 248, 187, 190, 305, 255, 270, 303, 301, 162, 165, 259, 307, 334, 267, 484, 487, 169, 164, 161, 250, 167, 251, 241, 253, 243, 171, 219, 221, 189, 193, 195, 197, 261, 257, 215, 218, 264, 135, 220, 222, 269, 266, 252, 246, 242, 170, 168, 191, 134, 216, 224, 226, 198, 254, 258, 292, 321, 324, 350, 366, 396, 127, 182, 211] (by decide +kernel)
set_option maxHeartbeats 16000000 in
set_option maxRecDepth 100000 in
/-- the law, from its entry -/
theorem whole_start {p : Program} {e : Env} {s : State} {m : MethodId} {below : List Frame} {meth : Method} {c : Code} (l : Launch) {b L : Nat} {xs : Nat → Int32} (hL : L ≤ 6) (C0 : lw_At p s m meth c b L xs) : W p l e room_1 s m #[Value.ref b] below meth c s.heap [] 0 0 (lw_Z below #[Value.ref b] s) (entryFrame m ([Value.ref b] : List Value).toArray 4) := by
  obtain ⟨hx, hb, hr, hml, hown, hts, hX, hbl, hlocks, hgv⟩ := id C0
  have hown : s.vm.findClass RL = some m.cls := hown
  have ht : ∀ w ∈ TBg, w.before #[Value.ref b] s = true := fun w h => hts w (tb_in h)
  have hA : ∀ q : Nat, s.heap.size ≤ q → (fun q : Nat => s.heap.size ≤ q) q := fun _ h => h
  have hbA : ¬ (fun q : Nat => s.heap.size ≤ q) b := Nat.not_le.mpr hbl
  obtain ⟨cc0, iS0, hKn0⟩ := u_known (C := RX0) (T := TX0) (N := 2) (n := 2) ht iX0 (ht (.instantiable RX0 2) k_113)
  obtain ⟨cc1, iS1, hKn1⟩ := u_known (C := RX1) (T := TX1) (N := 3) (n := 3) ht iX1 (ht (.instantiable RX1 3) k_101)
  obtain ⟨cc2, iS2, hKn2⟩ := u_known (C := RX2) (T := TX2) (N := 5) (n := 5) ht iX2 (ht (.instantiable RX2 5) k_65)
  obtain ⟨cc3, iS3, hKn3⟩ := u_known (C := RX3) (T := TX3) (N := 7) (n := 7) ht iX3 (ht (.instantiable RX3 7) k_107)
  obtain ⟨cc4, iS4, hKn4⟩ := u_known (C := RX4) (T := TX4) (N := 6) (n := 6) ht iX4 (ht (.instantiable RX4 6) k_69)
  obtain ⟨cc5, iS5, hKn5⟩ := u_known (C := RX5) (T := TX5) (N := 5) (n := 5) ht iX5 (ht (.instantiable RX5 5) k_58)
  obtain ⟨cc6, iS6, hKn6⟩ := u_known (C := RX6) (T := TX6) (N := 11) (n := 11) ht iX6 (ht (.instantiable RX6 11) k_248)
  obtain ⟨cc7, iS7, hKn7⟩ := u_known (C := RX7) (T := TX7) (N := 5) (n := 5) ht iX7 (ht (.instantiable RX7 5) k_86)
  obtain ⟨cc8, iS8, hKn8⟩ := u_known (C := RX8) (T := TX8) (N := 3) (n := 3) ht iX8 (ht (.instantiable RX8 3) k_40)
  obtain ⟨cc9, iS9, hKn9⟩ := u_known (C := RX9) (T := TX9) (N := 9) (n := 9) ht iX9 (ht (.instantiable RX9 9) k_77)
  obtain ⟨cc10, iS10, hKn10⟩ := u_known (C := RX10) (T := TX10) (N := 6) (n := 6) ht iX10 (ht (.instantiable RX10 6) k_95)
  obtain ⟨cc11, iS11, hKn11⟩ := u_known (C := RX11) (T := TX11) (N := 14) (n := 14) ht iX11 (ht (.instantiable RX11 14) k_617)
  obtain ⟨cc12, iS12, hKn12⟩ := u_known (C := RX12) (T := TX12) (N := 58) (n := 58) ht iX12 (ht (.instantiable RX12 58) k_618)
  obtain ⟨G, hKc⟩ : ∃ G : va_G, ∀ (k : Nat) (q : vw_C), vwCl[k]? = some q → u_Kn s q.1 q.2.1 q.2.2 (G.1 k) (G.2 k) := by
    refine ⟨(fun k => match k with | 0 => cc0 | 1 => cc1 | 2 => cc2 | 3 => cc3 | 4 => cc4 | 5 => cc5 | 6 => cc6 | 7 => cc7 | 8 => cc8 | 9 => cc9 | 10 => cc10 | 11 => cc11 | _ => cc12, fun k => match k with | 0 => iS0 | 1 => iS1 | 2 => iS2 | 3 => iS3 | 4 => iS4 | 5 => iS5 | 6 => iS6 | 7 => iS7 | 8 => iS8 | 9 => iS9 | 10 => iS10 | 11 => iS11 | _ => iS12), ?_⟩
    intro k q hq
    match k, hq with
    | 0, hq => cases hq; exact hKn0
    | 1, hq => cases hq; exact hKn1
    | 2, hq => cases hq; exact hKn2
    | 3, hq => cases hq; exact hKn3
    | 4, hq => cases hq; exact hKn4
    | 5, hq => cases hq; exact hKn5
    | 6, hq => cases hq; exact hKn6
    | 7, hq => cases hq; exact hKn7
    | 8, hq => cases hq; exact hKn8
    | 9, hq => cases hq; exact hKn9
    | 10, hq => cases hq; exact hKn10
    | 11, hq => cases hq; exact hKn11
    | 12, hq => cases hq; exact hKn12
    | k + 13, hq => simp [vwCl] at hq
  obtain ⟨aa0, ka0, co0, fa0, ha0, hk0⟩ := Cond.arrayClass_spec (ht (.arrayClass .int) k_4)
  obtain ⟨aa1, ka1, co1, fa1, ha1, hk1⟩ := Cond.arrayClass_spec (ht (.arrayClass .byte) k_74)
  obtain ⟨aa2, ka2, co2, fa2, ha2, hk2⟩ := Cond.arrayClass_spec (ht (.arrayClass .boolean) k_19)
  obtain ⟨aa3, ka3, co3, fa3, ha3, hk3⟩ := Cond.arrayClass_spec (ht (.arrayClass .long) k_51)
  have ao0 := hts (.arrayOver (.object "TuneLocks$Song")) (List.mem_of_getElem? (i := 120) (by decide +kernel))
  obtain ⟨co4, aa4, ka4, g4, -, ha4, hk4, fa4⟩ := Cond.arrayOver_spec ao0
  have ao1 := hts (.arrayOver (.object "TuneLocks$Hearing")) (List.mem_of_getElem? (i := 122) (by decide +kernel))
  obtain ⟨co5, aa5, ka5, g5, -, ha5, hk5, fa5⟩ := Cond.arrayOver_spec ao1
  have ao2 := hts (.arrayOver (.object "TuneLocks$Lock")) (List.mem_of_getElem? (i := 124) (by decide +kernel))
  obtain ⟨co6, aa6, ka6, g6, -, ha6, hk6, fa6⟩ := Cond.arrayOver_spec ao2
  have ao3 := hts (.arrayOver (.object "TuneLocks$Scene")) (List.mem_of_getElem? (i := 319) (by decide +kernel))
  obtain ⟨co7, aa7, ka7, g7, -, ha7, hk7, fa7⟩ := Cond.arrayOver_spec ao3
  have aoi := hts (.arrayOver (.array .int)) (List.mem_of_getElem? (i := 371) (by decide +kernel))
  obtain ⟨cy, hK⟩ : ∃ cy : Nat → ClassId, va_K G vwCl (TY cy) s := by
    refine ⟨fun k => match k with | 0 => aa0 | 1 => aa1 | 2 => aa2 | 3 => aa3 | 4 => aa4 | 5 => aa5 | 6 => aa6 | _ => aa7, hKc, fun k q hq => ?_⟩
    match k, hq with
    | 0, hq => cases hq; exact ⟨fun n z => ⟨fun k h => (by cases h), ka0, ha0, co0, hk0⟩, fa0⟩
    | 1, hq => cases hq; exact ⟨fun n z => ⟨fun k h => (by cases h), ka1, ha1, co1, hk1⟩, fa1⟩
    | 2, hq => cases hq; exact ⟨fun n z => ⟨fun k h => (by cases h), ka2, ha2, co2, hk2⟩, fa2⟩
    | 3, hq => cases hq; exact ⟨fun n z => ⟨fun k h => (by cases h), ka3, ha3, co3, hk3⟩, fa3⟩
    | 4, hq => cases hq; exact ⟨fun n z => ⟨fun k h => (by cases h), ka4, ha4, co4, hk4⟩, ka4, co4, ha4, hk4, g4, fa4⟩
    | 5, hq => cases hq; exact ⟨fun n z => ⟨fun k h => (by cases h), ka5, ha5, co5, hk5⟩, ka5, co5, ha5, hk5, g5, fa5⟩
    | 6, hq => cases hq; exact ⟨fun n z => ⟨fun k h => (by cases h), ka6, ha6, co6, hk6⟩, ka6, co6, ha6, hk6, g6, fa6⟩
    | 7, hq => cases hq; exact ⟨fun n z => ⟨fun k h => (by cases h), ka7, ha7, co7, hk7⟩, ka7, co7, ha7, hk7, g7, fa7⟩
    | k + 8, hq => simp [TY] at hq
  have hN : NK s := ⟨fun w hw => va_Nw.of (nst_tab w hw) (hts w (nst_in w hw)), va_AO.of ao0, va_AO.of ao1, va_AO.of ao2, va_AO.of ao3, aoi⟩
  have hs := flat_of_before _ hgv
  have hno : ∀ a : Nat, a < s.heap.size → ¬ (fun q : Nat => s.heap.size ≤ q) a := fun a h => Nat.not_le.mpr h
  obtain ⟨tsw, etsw, hT⟩ := va_Tof (tm := (.static "TuneLocks$Town" "SWEET_UNTOLD" "[I")) (ty := .int) (N := 6) (f := swF) (A := (fun q : Nat => s.heap.size ≤ q)) (by decide) (hs (.arrayOf (.static "TuneLocks$Town" "SWEET_UNTOLD" "[I") .int) (by decide +kernel)) (va_eqt (hs (.eq (.length (.static "TuneLocks$Town" "SWEET_UNTOLD" "[I")) (.int 6)) (by decide +kernel))) (fun j hj => by
    rcases (show j = 0 ∨ j = 1 ∨ j = 2 ∨ j = 3 ∨ j = 4 ∨ j = 5 by omega) with rfl | rfl | rfl | rfl | rfl | rfl
    · exact va_eqt (hs (.eq (.elem (.static "TuneLocks$Town" "SWEET_UNTOLD" "[I") (.int 0)) (.int 0)) (by decide +kernel))
    · exact va_eqt (hs (.eq (.elem (.static "TuneLocks$Town" "SWEET_UNTOLD" "[I") (.int 1)) (.int 3)) (by decide +kernel))
    · exact va_eqt (hs (.eq (.elem (.static "TuneLocks$Town" "SWEET_UNTOLD" "[I") (.int 2)) (.int 4)) (by decide +kernel))
    · exact va_eqt (hs (.eq (.elem (.static "TuneLocks$Town" "SWEET_UNTOLD" "[I") (.int 3)) (.int 7)) (by decide +kernel))
    · exact va_eqt (hs (.eq (.elem (.static "TuneLocks$Town" "SWEET_UNTOLD" "[I") (.int 4)) (.int 8)) (by decide +kernel))
    · exact va_eqt (hs (.eq (.elem (.static "TuneLocks$Town" "SWEET_UNTOLD" "[I") (.int 5)) (.int 9)) (by decide +kernel))
    ) hno
  have hZ := va_Zref (A := (fun q : Nat => s.heap.size ≤ q)) (hts (.laysStatic "TuneLocks$Town" "SWEET_UNTOLD" "[I") (List.mem_of_getElem? (i := 677) (by decide +kernel))) (ht (.initialized RX9) k_78) etsw hno
  have hSW : SWt tsw (fun q : Nat => s.heap.size ≤ q) s := ⟨hZ, hT⟩
  have hS : va_S (fun q : Nat => s.heap.size ≤ q) s.heap s.heap [] := va_S.rf
  have hP : va_P G vwCl [] s.heap := fun k q h => by simp at h
  have hD : va_D (fun q : Nat => s.heap.size ≤ q) [] := ⟨fun i j p q h => by simp at h, fun k q h => by simp at h⟩
  have hl := lv_entry ([.ref b]) (n := 4) (Nat.le_of_ble_eq_true rfl)
  rw [lg_entry_eq]
  generalize (lg_sl ([.ref b]) ++ List.replicate (4 - (lg_sl ([.ref b])).length) Slot.unset).toArray = ls at hl ⊢
  have hl : lv_has ls 4 [(0, .ref b)] := hl
  refine va_new (ci := 11) (fs := [.null, .int 0, .null, .null, .int 0, .int 0, .null, .null, .null, .null, .int 0, .null, .null, .null]) (C := RX11) (T := TX11) (N := 14) hx hb ht iX11 tyX11 tyX11_ok hown (ht _ k_619) (ht _ k_617) (ht _ k_183) hK hP hD hS hA rfl df11 (Nat.le_of_ble_eq_true rfl) (Nat.le_of_ble_eq_true rfl) dL_law_0 (fun q_1 H hP hD hS => ?_)
  refine lv_dup hx hb dL_law_3 rfl ?_
  have hFc := fr_lastF hD hS hA
  have hPc := fr_lastP hP
  refine va_callv (va_runI (As := []) (rest := [.ref q_1]) ⟨hx, hb, hml, hown, ht⟩ (c_TL l G cy _ q_1 ) (cwI 0 ht (gc k_620) rfl rfl rfl (ht _ k_183) (ht _ k_621) (ht _ k_622) rfl (by decide +kernel) ⟨Nat.le_of_ble_eq_true rfl, Nat.le_of_ble_eq_true rfl⟩) ⟨En.blind, fun U hU hW => ⟨rfl, En.of hU hW hPc hK (fr_lastD (ws := [])) hN⟩⟩ rfl rfl hl.1 rfl (lv_room (Nat.le_of_ble_eq_true rfl)) dL_law_4 ⟨Nat.le_of_ble_eq_true rfl, Nat.le_of_ble_eq_true rfl⟩) hS (fun q _ h => hFc q h) hFc (fun u_2 t H locs ht9 hvm hw hB hz1 hk1 hS => ?_)
  obtain ⟨hP1, hD1⟩ := hB
  rw [ht9] at hP1
  obtain ⟨hP, hD⟩ := fr_last hP hD hFc hk1 hP1 hD1
  clear hFc hPc hP1 hD1 hz1 hk1
  have hP : va_P G vwCl [(q_1, .inr (11, [.ref (u_2 0), .int 0, .ref (u_2 1), .ref (u_2 2), .int 0, .int (-1), .ref (u_2 3), .ref (u_2 4), .ref (u_2 5), .ref (u_2 6), .int 0, .ref (u_2 7), .ref (u_2 8), .ref (u_2 9)])), ((u_2 0), .inl (cy 1, 1700, .inl (fun _ => 0))), ((u_2 1), .inr (9, [.ref (u_2 10), .ref (u_2 11), .ref (u_2 12), .int 0, .ref (u_2 13), .int 0, .ref (u_2 14), .int 0, .ref (u_2 15)])), ((u_2 14), .inr (5, [.ref (u_2 16), .ref (u_2 17), .int 0, .ref (u_2 18), .int 0])), ((u_2 15), .inl (cy 2, 12, .inl (fun _ => 0))), ((u_2 2), .inr (9, [.ref (u_2 20), .ref (u_2 21), .ref (u_2 22), .int 0, .ref (u_2 23), .int 0, .ref (u_2 24), .int 0, .ref (u_2 25)])), ((u_2 24), .inr (5, [.ref (u_2 26), .ref (u_2 27), .int 0, .ref (u_2 28), .int 0])), ((u_2 25), .inl (cy 2, 12, .inl (fun _ => 0))), ((u_2 3), .inr (7, [.ref (u_2 30), .int 0, .int 0, .ref (u_2 31), .int 0])), ((u_2 30), .inr (8, [.ref (u_2 32), .ref (u_2 33), .int 0])), ((u_2 32), .inl (cy 0, 40, .inl (fun _ => 0))), ((u_2 33), .inl (cy 0, 40, .inl (fun _ => 0))), ((u_2 31), .inl (cy 0, 8, .inl (fun _ => 0))), ((u_2 4), .inl (cy 7, 3, .inr (.inr (.inr (.inr (va_up (va_up (va_up (fun _ => none) 0 (some (u_2 52))) 1 (some (u_2 53))) 2 (some (u_2 54)))))))), ((u_2 5), .inr (2, [.ref (u_2 34), .ref (u_2 35), .ref (u_2 36), .ref (u_2 37), .int 0])), ((u_2 6), .inr (10, [.ref (u_2 40), .ref (u_2 41), .ref (u_2 42), .ref (u_2 43), .ref (u_2 44), .int 0])), ((u_2 7), .inr (1, [.ref (u_2 45), .int 0, .int 0])), ((u_2 8), .inr (3, [.ref (u_2 46), .ref (u_2 47), .int 0, .ref (u_2 48), .ref (u_2 49), .ref (u_2 50), .int 0])), ((u_2 49), .inl (cy 0, 6, .inl (fun _ => 0))), ((u_2 50), .inl (cy 0, 6, .inl (fun _ => 0))), ((u_2 9), .inr (0, [.ref (u_2 51), .int 0])), ((u_2 52), .inr (7, [.ref (u_2 55), .int 0, .int 0, .ref (u_2 56), .int 0])), ((u_2 55), .inr (8, [.ref (u_2 57), .ref (u_2 58), .int 0])), ((u_2 57), .inl (cy 0, 40, .inl (fun _ => 0))), ((u_2 58), .inl (cy 0, 40, .inl (fun _ => 0))), ((u_2 56), .inl (cy 0, 8, .inl (fun _ => 0))), ((u_2 53), .inr (7, [.ref (u_2 59), .int 0, .int 0, .ref (u_2 60), .int 0])), ((u_2 59), .inr (8, [.ref (u_2 61), .ref (u_2 62), .int 0])), ((u_2 61), .inl (cy 0, 40, .inl (fun _ => 0))), ((u_2 62), .inl (cy 0, 40, .inl (fun _ => 0))), ((u_2 60), .inl (cy 0, 8, .inl (fun _ => 0))), ((u_2 54), .inr (7, [.ref (u_2 63), .int 0, .int 0, .ref (u_2 64), .int 0])), ((u_2 63), .inr (8, [.ref (u_2 65), .ref (u_2 66), .int 0])), ((u_2 65), .inl (cy 0, 40, .inl (fun _ => 0))), ((u_2 66), .inl (cy 0, 40, .inl (fun _ => 0))), ((u_2 64), .inl (cy 0, 8, .inl (fun _ => 0)))] H := hP
  have hD : va_D (fun q : Nat => s.heap.size ≤ q) [(q_1, .inr (11, [.ref (u_2 0), .int 0, .ref (u_2 1), .ref (u_2 2), .int 0, .int (-1), .ref (u_2 3), .ref (u_2 4), .ref (u_2 5), .ref (u_2 6), .int 0, .ref (u_2 7), .ref (u_2 8), .ref (u_2 9)])), ((u_2 0), .inl (cy 1, 1700, .inl (fun _ => 0))), ((u_2 1), .inr (9, [.ref (u_2 10), .ref (u_2 11), .ref (u_2 12), .int 0, .ref (u_2 13), .int 0, .ref (u_2 14), .int 0, .ref (u_2 15)])), ((u_2 14), .inr (5, [.ref (u_2 16), .ref (u_2 17), .int 0, .ref (u_2 18), .int 0])), ((u_2 15), .inl (cy 2, 12, .inl (fun _ => 0))), ((u_2 2), .inr (9, [.ref (u_2 20), .ref (u_2 21), .ref (u_2 22), .int 0, .ref (u_2 23), .int 0, .ref (u_2 24), .int 0, .ref (u_2 25)])), ((u_2 24), .inr (5, [.ref (u_2 26), .ref (u_2 27), .int 0, .ref (u_2 28), .int 0])), ((u_2 25), .inl (cy 2, 12, .inl (fun _ => 0))), ((u_2 3), .inr (7, [.ref (u_2 30), .int 0, .int 0, .ref (u_2 31), .int 0])), ((u_2 30), .inr (8, [.ref (u_2 32), .ref (u_2 33), .int 0])), ((u_2 32), .inl (cy 0, 40, .inl (fun _ => 0))), ((u_2 33), .inl (cy 0, 40, .inl (fun _ => 0))), ((u_2 31), .inl (cy 0, 8, .inl (fun _ => 0))), ((u_2 4), .inl (cy 7, 3, .inr (.inr (.inr (.inr (va_up (va_up (va_up (fun _ => none) 0 (some (u_2 52))) 1 (some (u_2 53))) 2 (some (u_2 54)))))))), ((u_2 5), .inr (2, [.ref (u_2 34), .ref (u_2 35), .ref (u_2 36), .ref (u_2 37), .int 0])), ((u_2 6), .inr (10, [.ref (u_2 40), .ref (u_2 41), .ref (u_2 42), .ref (u_2 43), .ref (u_2 44), .int 0])), ((u_2 7), .inr (1, [.ref (u_2 45), .int 0, .int 0])), ((u_2 8), .inr (3, [.ref (u_2 46), .ref (u_2 47), .int 0, .ref (u_2 48), .ref (u_2 49), .ref (u_2 50), .int 0])), ((u_2 49), .inl (cy 0, 6, .inl (fun _ => 0))), ((u_2 50), .inl (cy 0, 6, .inl (fun _ => 0))), ((u_2 9), .inr (0, [.ref (u_2 51), .int 0])), ((u_2 52), .inr (7, [.ref (u_2 55), .int 0, .int 0, .ref (u_2 56), .int 0])), ((u_2 55), .inr (8, [.ref (u_2 57), .ref (u_2 58), .int 0])), ((u_2 57), .inl (cy 0, 40, .inl (fun _ => 0))), ((u_2 58), .inl (cy 0, 40, .inl (fun _ => 0))), ((u_2 56), .inl (cy 0, 8, .inl (fun _ => 0))), ((u_2 53), .inr (7, [.ref (u_2 59), .int 0, .int 0, .ref (u_2 60), .int 0])), ((u_2 59), .inr (8, [.ref (u_2 61), .ref (u_2 62), .int 0])), ((u_2 61), .inl (cy 0, 40, .inl (fun _ => 0))), ((u_2 62), .inl (cy 0, 40, .inl (fun _ => 0))), ((u_2 60), .inl (cy 0, 8, .inl (fun _ => 0))), ((u_2 54), .inr (7, [.ref (u_2 63), .int 0, .int 0, .ref (u_2 64), .int 0])), ((u_2 63), .inr (8, [.ref (u_2 65), .ref (u_2 66), .int 0])), ((u_2 65), .inl (cy 0, 40, .inl (fun _ => 0))), ((u_2 66), .inl (cy 0, 40, .inl (fun _ => 0))), ((u_2 64), .inl (cy 0, 8, .inl (fun _ => 0)))] := hD
  refine lv_astore_n (lv' := [(1, .ref q_1), (0, .ref b)]) hx hb dL_law_7 rfl hl (by decide) rfl (fun ls hl => ?_)
  refine va_new (ci := 12) (fs := [.null, .null, .int 0, .int 0, .int 0, .int 0, .int 0, .int 0, .int 0, .int 0, .long 0, .null, .null, .null, .null, .null, .null, .null, .null, .null, .null, .null, .null, .null, .null, .null, .null, .null, .null, .int 0, .int 0, .int 0, .int 0, .int 0, .int 0, .null, .null, .int 0, .null, .null, .null, .null, .null, .int 0, .int 0, .null, .null, .null, .null, .null, .int 0, .int 0, .null, .null, .null, .null, .null, .null]) (C := RX12) (T := TX12) (N := 58) hx hb ht iX12 tyX12 tyX12_ok hown (ht _ k_623) (ht _ k_618) (ht _ k_314) hK hP hD hS hA rfl df12 (Nat.le_of_ble_eq_true rfl) (Nat.le_of_ble_eq_true rfl) dL_law_8 (fun q_3 H hP hD hS => ?_)
  refine lv_dup hx hb dL_law_11 rfl ?_
  have hFc := fr_lastF hD hS hA
  have hPc := fr_lastP hP
  refine va_callv (va_runI (As := []) (rest := [.ref q_3]) ⟨hx, hb, hml, hown, ht⟩ (c_Model l G cy _ q_3 ) (cwI 0 ht (gc k_624) rfl rfl rfl (ht _ k_314) (ht _ k_625) (ht _ k_626) rfl (by decide +kernel) ⟨Nat.le_of_ble_eq_true rfl, Nat.le_of_ble_eq_true rfl⟩) ⟨En.blind, fun U hU hW => ⟨rfl, En.of hU hW hPc hK (fr_lastD (ws := [])) hN⟩⟩ rfl rfl hl.1 rfl (lv_room (Nat.le_of_ble_eq_true rfl)) dL_law_12 ⟨Nat.le_of_ble_eq_true rfl, Nat.le_of_ble_eq_true rfl⟩) hS (fun q _ h => hFc q h) hFc (fun u_4 t H locs ht9 hvm hw hB hz1 hk1 hS => ?_)
  obtain ⟨hP1, hD1⟩ := hB
  rw [ht9] at hP1
  obtain ⟨hP, hD⟩ := fr_last hP hD hFc hk1 hP1 hD1
  clear hFc hPc hP1 hD1 hz1 hk1
  have hP : va_P G vwCl [(q_1, .inr (11, [.ref (u_2 0), .int 0, .ref (u_2 1), .ref (u_2 2), .int 0, .int (-1), .ref (u_2 3), .ref (u_2 4), .ref (u_2 5), .ref (u_2 6), .int 0, .ref (u_2 7), .ref (u_2 8), .ref (u_2 9)])), ((u_2 0), .inl (cy 1, 1700, .inl (fun _ => 0))), ((u_2 1), .inr (9, [.ref (u_2 10), .ref (u_2 11), .ref (u_2 12), .int 0, .ref (u_2 13), .int 0, .ref (u_2 14), .int 0, .ref (u_2 15)])), ((u_2 14), .inr (5, [.ref (u_2 16), .ref (u_2 17), .int 0, .ref (u_2 18), .int 0])), ((u_2 15), .inl (cy 2, 12, .inl (fun _ => 0))), ((u_2 2), .inr (9, [.ref (u_2 20), .ref (u_2 21), .ref (u_2 22), .int 0, .ref (u_2 23), .int 0, .ref (u_2 24), .int 0, .ref (u_2 25)])), ((u_2 24), .inr (5, [.ref (u_2 26), .ref (u_2 27), .int 0, .ref (u_2 28), .int 0])), ((u_2 25), .inl (cy 2, 12, .inl (fun _ => 0))), ((u_2 3), .inr (7, [.ref (u_2 30), .int 0, .int 0, .ref (u_2 31), .int 0])), ((u_2 30), .inr (8, [.ref (u_2 32), .ref (u_2 33), .int 0])), ((u_2 32), .inl (cy 0, 40, .inl (fun _ => 0))), ((u_2 33), .inl (cy 0, 40, .inl (fun _ => 0))), ((u_2 31), .inl (cy 0, 8, .inl (fun _ => 0))), ((u_2 4), .inl (cy 7, 3, .inr (.inr (.inr (.inr (va_up (va_up (va_up (fun _ => none) 0 (some (u_2 52))) 1 (some (u_2 53))) 2 (some (u_2 54)))))))), ((u_2 5), .inr (2, [.ref (u_2 34), .ref (u_2 35), .ref (u_2 36), .ref (u_2 37), .int 0])), ((u_2 6), .inr (10, [.ref (u_2 40), .ref (u_2 41), .ref (u_2 42), .ref (u_2 43), .ref (u_2 44), .int 0])), ((u_2 7), .inr (1, [.ref (u_2 45), .int 0, .int 0])), ((u_2 8), .inr (3, [.ref (u_2 46), .ref (u_2 47), .int 0, .ref (u_2 48), .ref (u_2 49), .ref (u_2 50), .int 0])), ((u_2 49), .inl (cy 0, 6, .inl (fun _ => 0))), ((u_2 50), .inl (cy 0, 6, .inl (fun _ => 0))), ((u_2 9), .inr (0, [.ref (u_2 51), .int 0])), ((u_2 52), .inr (7, [.ref (u_2 55), .int 0, .int 0, .ref (u_2 56), .int 0])), ((u_2 55), .inr (8, [.ref (u_2 57), .ref (u_2 58), .int 0])), ((u_2 57), .inl (cy 0, 40, .inl (fun _ => 0))), ((u_2 58), .inl (cy 0, 40, .inl (fun _ => 0))), ((u_2 56), .inl (cy 0, 8, .inl (fun _ => 0))), ((u_2 53), .inr (7, [.ref (u_2 59), .int 0, .int 0, .ref (u_2 60), .int 0])), ((u_2 59), .inr (8, [.ref (u_2 61), .ref (u_2 62), .int 0])), ((u_2 61), .inl (cy 0, 40, .inl (fun _ => 0))), ((u_2 62), .inl (cy 0, 40, .inl (fun _ => 0))), ((u_2 60), .inl (cy 0, 8, .inl (fun _ => 0))), ((u_2 54), .inr (7, [.ref (u_2 63), .int 0, .int 0, .ref (u_2 64), .int 0])), ((u_2 63), .inr (8, [.ref (u_2 65), .ref (u_2 66), .int 0])), ((u_2 65), .inl (cy 0, 40, .inl (fun _ => 0))), ((u_2 66), .inl (cy 0, 40, .inl (fun _ => 0))), ((u_2 64), .inl (cy 0, 8, .inl (fun _ => 0))), (q_3, .inr (12, [.ref (u_4.1 0), .ref (u_4.1 1), .int 0, .int 0, .int 0, .int (-1), .int 0, .int 0, .int 0, .int 0, .long 0, .ref (u_4.1 2), .ref (u_4.1 3), .ref (u_4.1 4), .ref (u_4.1 5), .ref (u_4.1 6), .ref (u_4.1 7), .ref (u_4.1 8), .ref (u_4.1 9), .ref (u_4.1 10), .ref (u_4.1 11), .ref (u_4.1 12), .ref (u_4.1 13), .ref (u_4.1 14), .ref (u_4.1 15), .ref (u_4.1 16), .ref (u_4.1 17), .ref (u_4.1 18), .ref (u_4.1 19), .int 0, .int 0, .int 0, .int 0, .int 0, .int 0, .ref (u_4.1 20), .ref (u_4.1 21), .int 0, .ref (u_4.1 22), .ref (u_4.1 23), .ref (u_4.1 24), .ref (u_4.1 25), .ref (u_4.1 26), .int 0, .int 0, .ref (u_4.1 27), .ref (u_4.1 28), .ref (u_4.1 29), .ref (u_4.1 30), .ref (u_4.1 31), .int 0, .int 0, .ref (u_4.1 32), .ref (u_4.1 33), .ref (u_4.1 34), .ref (u_4.1 35), .ref (u_4.1 36), .ref (u_4.1 37)])), ((u_4.1 0), .inl (cy 1, 1720, .inl (fun _ => 0))), ((u_4.1 2), .inl (cy 0, 2, .inl (fun _ => 0))), ((u_4.1 3), .inl (cy 0, 2, .inl (fun _ => 0))), ((u_4.1 4), .inl (cy 0, 2, .inl (fun _ => 0))), ((u_4.1 5), .inl (cy 0, 2, .inl (u_4.2 0))), ((u_4.1 12), .inl (cy 2, 2, .inl (u_4.2 1))), ((u_4.1 7), .inl (cy 0, 1200, .inl (fun _ => 0))), ((u_4.1 8), .inl (cy 0, 1200, .inl (fun _ => 0))), ((u_4.1 20), .inl (cy 2, 8, .inl (fun _ => 0))), ((u_4.1 21), .inl (cy 0, 8, .inl (fun _ => 0))), ((u_4.1 32), .inl (cy 0, 3, .inl (u_4.2 2))), ((u_4.1 33), .inl (cy 0, 120, .inl (fun _ => 0))), ((u_4.1 34), .inl (cy 0, 120, .inl (fun _ => 0))), ((u_4.1 35), .inl (cy 0, 24, .inl (fun _ => 0))), ((u_4.1 36), .inl (cy 2, 24, .inl (fun _ => 0))), ((u_4.1 37), .inl (cy 2, 3, .inl (fun _ => 0)))] H := hP
  have hD : va_D (fun q : Nat => s.heap.size ≤ q) [(q_1, .inr (11, [.ref (u_2 0), .int 0, .ref (u_2 1), .ref (u_2 2), .int 0, .int (-1), .ref (u_2 3), .ref (u_2 4), .ref (u_2 5), .ref (u_2 6), .int 0, .ref (u_2 7), .ref (u_2 8), .ref (u_2 9)])), ((u_2 0), .inl (cy 1, 1700, .inl (fun _ => 0))), ((u_2 1), .inr (9, [.ref (u_2 10), .ref (u_2 11), .ref (u_2 12), .int 0, .ref (u_2 13), .int 0, .ref (u_2 14), .int 0, .ref (u_2 15)])), ((u_2 14), .inr (5, [.ref (u_2 16), .ref (u_2 17), .int 0, .ref (u_2 18), .int 0])), ((u_2 15), .inl (cy 2, 12, .inl (fun _ => 0))), ((u_2 2), .inr (9, [.ref (u_2 20), .ref (u_2 21), .ref (u_2 22), .int 0, .ref (u_2 23), .int 0, .ref (u_2 24), .int 0, .ref (u_2 25)])), ((u_2 24), .inr (5, [.ref (u_2 26), .ref (u_2 27), .int 0, .ref (u_2 28), .int 0])), ((u_2 25), .inl (cy 2, 12, .inl (fun _ => 0))), ((u_2 3), .inr (7, [.ref (u_2 30), .int 0, .int 0, .ref (u_2 31), .int 0])), ((u_2 30), .inr (8, [.ref (u_2 32), .ref (u_2 33), .int 0])), ((u_2 32), .inl (cy 0, 40, .inl (fun _ => 0))), ((u_2 33), .inl (cy 0, 40, .inl (fun _ => 0))), ((u_2 31), .inl (cy 0, 8, .inl (fun _ => 0))), ((u_2 4), .inl (cy 7, 3, .inr (.inr (.inr (.inr (va_up (va_up (va_up (fun _ => none) 0 (some (u_2 52))) 1 (some (u_2 53))) 2 (some (u_2 54)))))))), ((u_2 5), .inr (2, [.ref (u_2 34), .ref (u_2 35), .ref (u_2 36), .ref (u_2 37), .int 0])), ((u_2 6), .inr (10, [.ref (u_2 40), .ref (u_2 41), .ref (u_2 42), .ref (u_2 43), .ref (u_2 44), .int 0])), ((u_2 7), .inr (1, [.ref (u_2 45), .int 0, .int 0])), ((u_2 8), .inr (3, [.ref (u_2 46), .ref (u_2 47), .int 0, .ref (u_2 48), .ref (u_2 49), .ref (u_2 50), .int 0])), ((u_2 49), .inl (cy 0, 6, .inl (fun _ => 0))), ((u_2 50), .inl (cy 0, 6, .inl (fun _ => 0))), ((u_2 9), .inr (0, [.ref (u_2 51), .int 0])), ((u_2 52), .inr (7, [.ref (u_2 55), .int 0, .int 0, .ref (u_2 56), .int 0])), ((u_2 55), .inr (8, [.ref (u_2 57), .ref (u_2 58), .int 0])), ((u_2 57), .inl (cy 0, 40, .inl (fun _ => 0))), ((u_2 58), .inl (cy 0, 40, .inl (fun _ => 0))), ((u_2 56), .inl (cy 0, 8, .inl (fun _ => 0))), ((u_2 53), .inr (7, [.ref (u_2 59), .int 0, .int 0, .ref (u_2 60), .int 0])), ((u_2 59), .inr (8, [.ref (u_2 61), .ref (u_2 62), .int 0])), ((u_2 61), .inl (cy 0, 40, .inl (fun _ => 0))), ((u_2 62), .inl (cy 0, 40, .inl (fun _ => 0))), ((u_2 60), .inl (cy 0, 8, .inl (fun _ => 0))), ((u_2 54), .inr (7, [.ref (u_2 63), .int 0, .int 0, .ref (u_2 64), .int 0])), ((u_2 63), .inr (8, [.ref (u_2 65), .ref (u_2 66), .int 0])), ((u_2 65), .inl (cy 0, 40, .inl (fun _ => 0))), ((u_2 66), .inl (cy 0, 40, .inl (fun _ => 0))), ((u_2 64), .inl (cy 0, 8, .inl (fun _ => 0))), (q_3, .inr (12, [.ref (u_4.1 0), .ref (u_4.1 1), .int 0, .int 0, .int 0, .int (-1), .int 0, .int 0, .int 0, .int 0, .long 0, .ref (u_4.1 2), .ref (u_4.1 3), .ref (u_4.1 4), .ref (u_4.1 5), .ref (u_4.1 6), .ref (u_4.1 7), .ref (u_4.1 8), .ref (u_4.1 9), .ref (u_4.1 10), .ref (u_4.1 11), .ref (u_4.1 12), .ref (u_4.1 13), .ref (u_4.1 14), .ref (u_4.1 15), .ref (u_4.1 16), .ref (u_4.1 17), .ref (u_4.1 18), .ref (u_4.1 19), .int 0, .int 0, .int 0, .int 0, .int 0, .int 0, .ref (u_4.1 20), .ref (u_4.1 21), .int 0, .ref (u_4.1 22), .ref (u_4.1 23), .ref (u_4.1 24), .ref (u_4.1 25), .ref (u_4.1 26), .int 0, .int 0, .ref (u_4.1 27), .ref (u_4.1 28), .ref (u_4.1 29), .ref (u_4.1 30), .ref (u_4.1 31), .int 0, .int 0, .ref (u_4.1 32), .ref (u_4.1 33), .ref (u_4.1 34), .ref (u_4.1 35), .ref (u_4.1 36), .ref (u_4.1 37)])), ((u_4.1 0), .inl (cy 1, 1720, .inl (fun _ => 0))), ((u_4.1 2), .inl (cy 0, 2, .inl (fun _ => 0))), ((u_4.1 3), .inl (cy 0, 2, .inl (fun _ => 0))), ((u_4.1 4), .inl (cy 0, 2, .inl (fun _ => 0))), ((u_4.1 5), .inl (cy 0, 2, .inl (u_4.2 0))), ((u_4.1 12), .inl (cy 2, 2, .inl (u_4.2 1))), ((u_4.1 7), .inl (cy 0, 1200, .inl (fun _ => 0))), ((u_4.1 8), .inl (cy 0, 1200, .inl (fun _ => 0))), ((u_4.1 20), .inl (cy 2, 8, .inl (fun _ => 0))), ((u_4.1 21), .inl (cy 0, 8, .inl (fun _ => 0))), ((u_4.1 32), .inl (cy 0, 3, .inl (u_4.2 2))), ((u_4.1 33), .inl (cy 0, 120, .inl (fun _ => 0))), ((u_4.1 34), .inl (cy 0, 120, .inl (fun _ => 0))), ((u_4.1 35), .inl (cy 0, 24, .inl (fun _ => 0))), ((u_4.1 36), .inl (cy 2, 24, .inl (fun _ => 0))), ((u_4.1 37), .inl (cy 2, 3, .inl (fun _ => 0)))] := hD
  refine lv_astore_n (lv' := [(2, .ref q_3), (1, .ref q_1), (0, .ref b)]) hx hb dL_law_15 rfl hl (by decide) rfl (fun ls hl => ?_)
  refine lv_iconst (v := 0) hx hb dL_law_16 (by decide) ?_
  refine lv_istore_n (lv' := [(3, .int 0), (2, .ref q_3), (1, .ref q_1), (0, .ref b)]) hx hb dL_law_17 rfl hl (by decide) rfl (fun ls hl => ?_)
  have hP : va_P G vwCl (WX cy q_1 u_2 ++ WM cy q_3 u_4.1 u_4.2) H := hP
  have hD : va_D (fun q : Nat => s.heap.size ≤ q) (WX cy q_1 u_2 ++ WM cy q_3 u_4.1 u_4.2) := hD
  have hbm := hw
  refine W.widen (k := 1000) (n := 40000) (Nat.le_of_ble_eq_true rfl) (Nat.le_of_ble_eq_true rfl) ?_
  have hL7 : L = 0 ∨ L = 1 ∨ L = 2 ∨ L = 3 ∨ L = 4 ∨ L = 5 ∨ L = 6 := by omega
  rcases hL7 with rfl | rfl | rfl | rfl | rfl | rfl | rfl
  · skip
    refine lv_iload_n hx hb dL_law_18 rfl (lv_at hl 0 rfl) ?_
    refine lv_aload_n hx hb dL_law_19 rfl (lv_at hl 3 rfl) ?_
    refine va_slen hx hb hX hbl hbA hS dL_law_20 ?_
    refine ow_top 0 (by decide +kernel) ?_
    refine lv_bipush (v := 6) hx hb dL_law_21 (by decide) ?_
    refine lv_isub hx hb dL_law_23 ?_
    refine ow_top (-6) (by decide +kernel) ?_
    refine lv_icmp_gt (tgt := 1217) hx hb dL_law_24 (by decide) (fun _ => ?_) (fun c9 => absurd (by decide) c9)
    refine lv_iconst (v := 1) hx hb dL_law_1217 (by decide) ?_
    refine va_forget (fun q hq => hS.2.2 q hq) ?_
    refine W.widen (k := 600000) (n := 7302250) (Nat.le_of_ble_eq_true rfl) (Nat.le_of_ble_eq_true rfl) ?_
    exact lw_ret hx hb hr hlocks dL_law_1218
  · skip
    refine lv_iload_n hx hb dL_law_18 rfl (lv_at hl 0 rfl) ?_
    refine lv_aload_n hx hb dL_law_19 rfl (lv_at hl 3 rfl) ?_
    refine va_slen hx hb hX hbl hbA hS dL_law_20 ?_
    refine ow_top 1 (by decide +kernel) ?_
    refine lv_bipush (v := 6) hx hb dL_law_21 (by decide) ?_
    refine lv_isub hx hb dL_law_23 ?_
    refine ow_top (-5) (by decide +kernel) ?_
    refine lv_icmp_gt (tgt := 1217) hx hb dL_law_24 (by decide) (fun _ => ?_) (fun c9 => absurd (by decide) c9)
    refine lv_iconst (v := 1) hx hb dL_law_1217 (by decide) ?_
    refine va_forget (fun q hq => hS.2.2 q hq) ?_
    refine W.widen (k := 600000) (n := 7302250) (Nat.le_of_ble_eq_true rfl) (Nat.le_of_ble_eq_true rfl) ?_
    exact lw_ret hx hb hr hlocks dL_law_1218
  · skip
    refine lv_iload_n hx hb dL_law_18 rfl (lv_at hl 0 rfl) ?_
    refine lv_aload_n hx hb dL_law_19 rfl (lv_at hl 3 rfl) ?_
    refine va_slen hx hb hX hbl hbA hS dL_law_20 ?_
    refine ow_top 2 (by decide +kernel) ?_
    refine lv_bipush (v := 6) hx hb dL_law_21 (by decide) ?_
    refine lv_isub hx hb dL_law_23 ?_
    refine ow_top (-4) (by decide +kernel) ?_
    refine lv_icmp_gt (tgt := 1217) hx hb dL_law_24 (by decide) (fun _ => ?_) (fun c9 => absurd (by decide) c9)
    refine lv_iconst (v := 1) hx hb dL_law_1217 (by decide) ?_
    refine va_forget (fun q hq => hS.2.2 q hq) ?_
    refine W.widen (k := 600000) (n := 7302250) (Nat.le_of_ble_eq_true rfl) (Nat.le_of_ble_eq_true rfl) ?_
    exact lw_ret hx hb hr hlocks dL_law_1218
  · skip
    refine lv_iload_n hx hb dL_law_18 rfl (lv_at hl 0 rfl) ?_
    refine lv_aload_n hx hb dL_law_19 rfl (lv_at hl 3 rfl) ?_
    refine va_slen hx hb hX hbl hbA hS dL_law_20 ?_
    refine ow_top 3 (by decide +kernel) ?_
    refine lv_bipush (v := 6) hx hb dL_law_21 (by decide) ?_
    refine lv_isub hx hb dL_law_23 ?_
    refine ow_top (-3) (by decide +kernel) ?_
    refine lv_icmp_gt (tgt := 1217) hx hb dL_law_24 (by decide) (fun _ => ?_) (fun c9 => absurd (by decide) c9)
    refine lv_iconst (v := 1) hx hb dL_law_1217 (by decide) ?_
    refine va_forget (fun q hq => hS.2.2 q hq) ?_
    refine W.widen (k := 600000) (n := 7302250) (Nat.le_of_ble_eq_true rfl) (Nat.le_of_ble_eq_true rfl) ?_
    exact lw_ret hx hb hr hlocks dL_law_1218
  · skip
    refine lv_iload_n hx hb dL_law_18 rfl (lv_at hl 0 rfl) ?_
    refine lv_aload_n hx hb dL_law_19 rfl (lv_at hl 3 rfl) ?_
    refine va_slen hx hb hX hbl hbA hS dL_law_20 ?_
    refine ow_top 4 (by decide +kernel) ?_
    refine lv_bipush (v := 6) hx hb dL_law_21 (by decide) ?_
    refine lv_isub hx hb dL_law_23 ?_
    refine ow_top (-2) (by decide +kernel) ?_
    refine lv_icmp_gt (tgt := 1217) hx hb dL_law_24 (by decide) (fun _ => ?_) (fun c9 => absurd (by decide) c9)
    refine lv_iconst (v := 1) hx hb dL_law_1217 (by decide) ?_
    refine va_forget (fun q hq => hS.2.2 q hq) ?_
    refine W.widen (k := 600000) (n := 7302250) (Nat.le_of_ble_eq_true rfl) (Nat.le_of_ble_eq_true rfl) ?_
    exact lw_ret hx hb hr hlocks dL_law_1218
  · skip
    refine lv_iload_n hx hb dL_law_18 rfl (lv_at hl 0 rfl) ?_
    refine lv_aload_n hx hb dL_law_19 rfl (lv_at hl 3 rfl) ?_
    refine va_slen hx hb hX hbl hbA hS dL_law_20 ?_
    refine ow_top 5 (by decide +kernel) ?_
    refine lv_bipush (v := 6) hx hb dL_law_21 (by decide) ?_
    refine lv_isub hx hb dL_law_23 ?_
    refine ow_top (-1) (by decide +kernel) ?_
    refine lv_icmp_gt (tgt := 1217) hx hb dL_law_24 (by decide) (fun _ => ?_) (fun c9 => absurd (by decide) c9)
    refine lv_iconst (v := 1) hx hb dL_law_1217 (by decide) ?_
    refine va_forget (fun q hq => hS.2.2 q hq) ?_
    refine W.widen (k := 600000) (n := 7302250) (Nat.le_of_ble_eq_true rfl) (Nat.le_of_ble_eq_true rfl) ?_
    exact lw_ret hx hb hr hlocks dL_law_1218
  · skip
    refine lv_iload_n hx hb dL_law_18 rfl (lv_at hl 0 rfl) ?_
    refine lv_aload_n hx hb dL_law_19 rfl (lv_at hl 3 rfl) ?_
    refine va_slen hx hb hX hbl hbA hS dL_law_20 ?_
    refine ow_top 6 (by decide +kernel) ?_
    refine lv_bipush (v := 6) hx hb dL_law_21 (by decide) ?_
    refine lv_isub hx hb dL_law_23 ?_
    refine ow_top 0 (by decide +kernel) ?_
    refine lv_icmp_gt (tgt := 1217) hx hb dL_law_24 (by decide) (fun c9 => absurd c9 (by decide)) (fun _ => ?_)
    refine lv_aload_n hx hb dL_law_27 rfl (lv_at hl 3 rfl) ?_
    refine lv_iload_n hx hb dL_law_28 rfl (lv_at hl 0 rfl) ?_
    refine va_sld hx hb hX hbl hbA hS (in_lit (by decide +kernel)) dL_law_29 ?_
    refine ow_top (xs 0) rfl ?_
    refine lv_bipush (v := 31) hx hb dL_law_30 (by decide) ?_
    refine lv_iand hx hb dL_law_32 ?_
    obtain ⟨j, hj, ej⟩ := pk_andE (xs 0) (m := 31) 5 (by decide)
    refine ow_top (nI j) ej ?_
    have hj32 : j = 0 ∨ j = 1 ∨ j = 2 ∨ j = 3 ∨ j = 4 ∨ j = 5 ∨ j = 6 ∨ j = 7 ∨ j = 8 ∨ j = 9 ∨ j = 10 ∨ j = 11 ∨ j = 12 ∨ j = 13 ∨ j = 14 ∨ j = 15 ∨ j = 16 ∨ j = 17 ∨ j = 18 ∨ j = 19 ∨ j = 20 ∨ j = 21 ∨ j = 22 ∨ j = 23 ∨ j = 24 ∨ j = 25 ∨ j = 26 ∨ j = 27 ∨ j = 28 ∨ j = 29 ∨ j = 30 ∨ j = 31 := by omega
    rcases hj32 with rfl | rfl | rfl | rfl | rfl | rfl | rfl | rfl | rfl | rfl | rfl | rfl | rfl | rfl | rfl | rfl | rfl | rfl | rfl | rfl | rfl | rfl | rfl | rfl | rfl | rfl | rfl | rfl | rfl | rfl | rfl | rfl
    · refine lv_tableIn (tgt := 172) hx hb dL_law_33 (by decide +kernel) (by decide +kernel) rfl (by decide) ?_
      exact law_0 l hbm hx hb hr hml hown ht hX hbl hlocks hK hN hSW hP hD hS hl
    · refine lv_tableIn (tgt := 235) hx hb dL_law_33 (by decide +kernel) (by decide +kernel) rfl (by decide) ?_
      exact law_1 l hbm hx hb hr hml hown ht hX hbl hlocks hK hN hSW hP hD hS hl
    · refine lv_tableIn (tgt := 258) hx hb dL_law_33 (by decide +kernel) (by decide +kernel) rfl (by decide) ?_
      exact law_2 l hbm hx hb hr hml hown ht hX hbl hlocks hK hN hSW hP hD hS hl
    · refine lv_tableIn (tgt := 271) hx hb dL_law_33 (by decide +kernel) (by decide +kernel) rfl (by decide) ?_
      exact law_3 l hbm hx hb hr hml hown ht hX hbl hlocks hK hN hSW hP hD hS hl
    · refine lv_tableIn (tgt := 294) hx hb dL_law_33 (by decide +kernel) (by decide +kernel) rfl (by decide) ?_
      exact law_4 l hbm hx hb hr hml hown ht hX hbl hlocks hK hN hSW hP hD hS hl
    · refine lv_tableIn (tgt := 317) hx hb dL_law_33 (by decide +kernel) (by decide +kernel) rfl (by decide) ?_
      exact law_5 l hbm hx hb hr hml hown ht hX hbl hlocks hK hN hSW hP hD hS hl
    · refine lv_tableIn (tgt := 350) hx hb dL_law_33 (by decide +kernel) (by decide +kernel) rfl (by decide) ?_
      exact law_6 l hbm hx hb hr hml hown ht hX hbl hlocks hK hN hSW hP hD hS hl
    · refine lv_tableIn (tgt := 393) hx hb dL_law_33 (by decide +kernel) (by decide +kernel) rfl (by decide) ?_
      exact law_7 l hbm hx hb hr hml hown ht hX hbl hlocks hK hN hSW hP hD hS hl
    · refine lv_tableIn (tgt := 436) hx hb dL_law_33 (by decide +kernel) (by decide +kernel) rfl (by decide) ?_
      exact law_8 l hbm hx hb hr hml hown ht hX hbl hlocks hK hN hSW hP hD hS hl
    · refine lv_tableIn (tgt := 485) hx hb dL_law_33 (by decide +kernel) (by decide +kernel) rfl (by decide) ?_
      exact law_9 l hbm hx hb hr hml hown ht hX hbl hlocks hK hN hSW hP hD hS hl
    · refine lv_tableIn (tgt := 544) hx hb dL_law_33 (by decide +kernel) (by decide +kernel) rfl (by decide) ?_
      exact law_10 l hbm hx hb hr hml hown ht hX hbl hlocks hK hN hSW hP hD hS hl
    · refine lv_tableIn (tgt := 567) hx hb dL_law_33 (by decide +kernel) (by decide +kernel) rfl (by decide) ?_
      exact law_11 l hbm hx hb hr hml hown ht hX hbl hlocks hK hN hSW hP hD hS hl
    · refine lv_tableIn (tgt := 600) hx hb dL_law_33 (by decide +kernel) (by decide +kernel) rfl (by decide) ?_
      exact law_12 l hbm hx hb hr hml hown ht hX hbl hlocks hK hN hSW hP hD hS hl
    · refine lv_tableIn (tgt := 633) hx hb dL_law_33 (by decide +kernel) (by decide +kernel) rfl (by decide) ?_
      exact law_13 l hbm hx hb hr hml hown ht hX hbl hlocks hK hN hSW hP hD hS hl
    · refine lv_tableIn (tgt := 666) hx hb dL_law_33 (by decide +kernel) (by decide +kernel) rfl (by decide) ?_
      exact law_14 l hbm hx hb hr hml hown ht hX hbl hlocks hK hN hSW hP hD hS hl
    · refine lv_tableIn (tgt := 709) hx hb dL_law_33 (by decide +kernel) (by decide +kernel) rfl (by decide) ?_
      exact law_15 l hbm hx hb hr hml hown ht hX hbl hlocks hK hN hSW hP hD hS hl
    · refine lv_tableIn (tgt := 758) hx hb dL_law_33 (by decide +kernel) (by decide +kernel) rfl (by decide) ?_
      exact law_16 l hbm hx hb hr hml hown ht hX hbl hlocks hK hN hSW hP hD hS hl
    · refine lv_tableIn (tgt := 791) hx hb dL_law_33 (by decide +kernel) (by decide +kernel) rfl (by decide) ?_
      exact law_17 l hbm hx hb hr hml hown ht hX hbl hlocks hK hN hSW hP hD hS hl
    · refine lv_tableIn (tgt := 824) hx hb dL_law_33 (by decide +kernel) (by decide +kernel) rfl (by decide) ?_
      exact law_18 l hbm hx hb hr hml hown ht hX hbl hlocks hK hN hSW hP hD hS hl
    · refine lv_tableIn (tgt := 837) hx hb dL_law_33 (by decide +kernel) (by decide +kernel) rfl (by decide) ?_
      exact law_19 l hbm hx hb hr hml hown ht hX hbl hlocks hK hN hSW hP hD hS hl
    · refine lv_tableIn (tgt := 860) hx hb dL_law_33 (by decide +kernel) (by decide +kernel) rfl (by decide) ?_
      exact law_20 l hbm hx hb hr hml hown ht hX hbl hlocks hK hN hSW hP hD hS hl
    · refine lv_tableIn (tgt := 899) hx hb dL_law_33 (by decide +kernel) (by decide +kernel) rfl (by decide) ?_
      exact law_21 l hbm hx hb hr hml hown ht hX hbl hlocks hK hN hSW hP hD hS hl
    · refine lv_tableIn (tgt := 932) hx hb dL_law_33 (by decide +kernel) (by decide +kernel) rfl (by decide) ?_
      exact law_22 l hbm hx hb hr hml hown ht hX hbl hlocks hK hN hSW hP hD hS hl
    · refine lv_tableIn (tgt := 965) hx hb dL_law_33 (by decide +kernel) (by decide +kernel) rfl (by decide) ?_
      exact law_23 l hbm hx hb hr hml hown ht hX hbl hlocks hK hN hSW hP hD hS hl
    · refine lv_tableIn (tgt := 1040) hx hb dL_law_33 (by decide +kernel) (by decide +kernel) rfl (by decide) ?_
      exact law_24 l hbm hx hb hr hml hown ht hX hbl hlocks hK hN hSW hP hD hS hl
    · refine lv_tableIn (tgt := 1063) hx hb dL_law_33 (by decide +kernel) (by decide +kernel) rfl (by decide) ?_
      exact law_25 l hbm hx hb hr hml hown ht hX hbl hlocks hK hN hSW hP hD hS hl
    · refine lv_tableIn (tgt := 1086) hx hb dL_law_33 (by decide +kernel) (by decide +kernel) rfl (by decide) ?_
      exact law_26 l hbm hx hb hr hml hown ht hX hbl hlocks hK hN hSW hP hD hS hl
    · refine lv_tableIn (tgt := 1109) hx hb dL_law_33 (by decide +kernel) (by decide +kernel) rfl (by decide) ?_
      exact law_27 l hbm hx hb hr hml hown ht hX hbl hlocks hK hN hSW hP hD hS hl
    · refine lv_tableIn (tgt := 1142) hx hb dL_law_33 (by decide +kernel) (by decide +kernel) rfl (by decide) ?_
      exact law_28 l hbm hx hb hr hml hown ht hX hbl hlocks hK hN hSW hP hD hS hl
    · refine lv_tableIn (tgt := 1165) hx hb dL_law_33 (by decide +kernel) (by decide +kernel) rfl (by decide) ?_
      exact law_29 l hbm hx hb hr hml hown ht hX hbl hlocks hK hN hSW hP hD hS hl
    · refine lv_tableIn (tgt := 1188) hx hb dL_law_33 (by decide +kernel) (by decide +kernel) rfl (by decide) ?_
      exact law_30 l hbm hx hb hr hml hown ht hX hbl hlocks hK hN hSW hP hD hS hl
    · refine lv_tableOut (tgt := 1211) hx hb dL_law_33 (by decide +kernel) (by decide) ?_
      exact law_d l hbm hx hb hr hml hown ht hX hbl hlocks hK hN hSW hP hD hS hl
