set_option maxHeartbeats 16000000 in
set_option maxRecDepth 100000 in
/-- the law, from its entry -/
theorem whole_start {p : Program} {e : Env} {s : State} {m : MethodId} {below : List Frame} {meth : Method} {c : Code} (l : Launch) {b L : Nat} {xs : Nat → Int32} (hL : L ≤ 3072) (C0 : lw_At p s m meth c b L xs) : W p l e room_1 s m #[Value.ref b] below meth c s.heap [] 0 0 (lw_Z below #[Value.ref b] s) (entryFrame m ([Value.ref b] : List Value).toArray 4) := by
  obtain ⟨hx, hb, hr, hml, hown, hts, hX, hbl, hlocks, hgv⟩ := id C0
  have hown : s.vm.findClass RL = some m.cls := hown
  have ht : ∀ w ∈ TBg, w.before #[Value.ref b] s = true := fun w h => hts w (tb_in h)
  have hA : ∀ q : Nat, s.heap.size ≤ q → (fun q : Nat => s.heap.size ≤ q) q := fun _ h => h
  obtain ⟨cc0, iS0, hKn0⟩ := u_known (C := RX0) (T := TX0) (N := 2) (n := 2) ht iX0 (ht (.instantiable RX0 2) k_851)
  obtain ⟨cc1, iS1, hKn1⟩ := u_known (C := RX1) (T := TX1) (N := 3) (n := 3) ht iX1 (ht (.instantiable RX1 3) k_843)
  obtain ⟨cc2, iS2, hKn2⟩ := u_known (C := RX2) (T := TX2) (N := 5) (n := 5) ht iX2 (ht (.instantiable RX2 5) k_821)
  obtain ⟨cc3, iS3, hKn3⟩ := u_known (C := RX3) (T := TX3) (N := 7) (n := 7) ht iX3 (ht (.instantiable RX3 7) k_847)
  obtain ⟨cc4, iS4, hKn4⟩ := u_known (C := RX4) (T := TX4) (N := 6) (n := 6) ht iX4 (ht (.instantiable RX4 6) k_824)
  obtain ⟨cc5, iS5, hKn5⟩ := u_known (C := RX5) (T := TX5) (N := 5) (n := 5) ht iX5 (ht (.instantiable RX5 5) k_817)
  obtain ⟨cc6, iS6, hKn6⟩ := u_known (C := RX6) (T := TX6) (N := 11) (n := 11) ht iX6 (ht (.instantiable RX6 11) k_771)
  obtain ⟨cc7, iS7, hKn7⟩ := u_known (C := RX7) (T := TX7) (N := 5) (n := 5) ht iX7 (ht (.instantiable RX7 5) k_834)
  obtain ⟨cc8, iS8, hKn8⟩ := u_known (C := RX8) (T := TX8) (N := 3) (n := 3) ht iX8 (ht (.instantiable RX8 3) k_806)
  obtain ⟨cc9, iS9, hKn9⟩ := u_known (C := RX9) (T := TX9) (N := 9) (n := 9) ht iX9 (ht (.instantiable RX9 9) k_829)
  obtain ⟨cc10, iS10, hKn10⟩ := u_known (C := RX10) (T := TX10) (N := 6) (n := 6) ht iX10 (ht (.instantiable RX10 6) k_839)
  obtain ⟨cc11, iS11, hKn11⟩ := u_known (C := RX11) (T := TX11) (N := 14) (n := 14) ht iX11 (ht (.instantiable RX11 14) k_1096)
  obtain ⟨cc12, iS12, hKn12⟩ := u_known (C := RX12) (T := TX12) (N := 58) (n := 58) ht iX12 (ht (.instantiable RX12 58) k_1097)
  obtain ⟨G, hKc⟩ : ∃ G : va_G, ∀ (k : Nat) (q : vw_C), vwCl[k]? = some q → u_Kn s q.1 q.2.1 q.2.2 (G.1 k) (G.2 k) := by
    refine ⟨(fun k => match k with | 0 => cc0 | 1 => cc1 | 2 => cc2 | 3 => cc3 | 4 => cc4 | 5 => cc5 | 6 => cc6 | 7 => cc7 | 8 => cc8 | 9 => cc9 | 10 => cc10 | 11 => cc11 | _ => cc12, fun k => match k with | 0 => iS0 | 1 => iS1 | 2 => iS2 | 3 => iS3 | 4 => iS4 | 5 => iS5 | 6 => iS6 | 7 => iS7 | 8 => iS8 | 9 => iS9 | 10 => iS10 | 11 => iS11 | _ => iS12), ?_⟩
    intro k q hq
    match k, hq with
    | 0, hq => cases hq; exact hKn0
    | 1, hq => cases hq; exact hKn1
    | 2, hq => cases hq; exact hKn2
    | 3, hq => cases hq; exact hKn3
    | 4, hq => cases hq; exact hKn4
    | 5, hq => cases hq; exact hKn5
    | 6, hq => cases hq; exact hKn6
    | 7, hq => cases hq; exact hKn7
    | 8, hq => cases hq; exact hKn8
    | 9, hq => cases hq; exact hKn9
    | 10, hq => cases hq; exact hKn10
    | 11, hq => cases hq; exact hKn11
    | 12, hq => cases hq; exact hKn12
    | k + 13, hq => simp [vwCl] at hq
  obtain ⟨aa0, ka0, co0, fa0, ha0, hk0⟩ := Cond.arrayClass_spec (ht (.arrayClass .int) k_793)
  obtain ⟨aa1, ka1, co1, fa1, ha1, hk1⟩ := Cond.arrayClass_spec (ht (.arrayClass .byte) k_792)
  obtain ⟨aa2, ka2, co2, fa2, ha2, hk2⟩ := Cond.arrayClass_spec (ht (.arrayClass .boolean) k_794)
  obtain ⟨aa3, ka3, co3, fa3, ha3, hk3⟩ := Cond.arrayClass_spec (ht (.arrayClass .long) k_795)
  have ao0 := hts (.arrayOver (.object "TuneLocks$Song")) (List.mem_of_getElem? (i := 120) (by decide +kernel))
  obtain ⟨co4, aa4, ka4, g4, -, ha4, hk4, fa4⟩ := Cond.arrayOver_spec ao0
  have ao1 := hts (.arrayOver (.object "TuneLocks$Hearing")) (List.mem_of_getElem? (i := 122) (by decide +kernel))
  obtain ⟨co5, aa5, ka5, g5, -, ha5, hk5, fa5⟩ := Cond.arrayOver_spec ao1
  have ao2 := hts (.arrayOver (.object "TuneLocks$Lock")) (List.mem_of_getElem? (i := 124) (by decide +kernel))
  obtain ⟨co6, aa6, ka6, g6, -, ha6, hk6, fa6⟩ := Cond.arrayOver_spec ao2
  have ao3 := hts (.arrayOver (.object "TuneLocks$Scene")) (List.mem_of_getElem? (i := 319) (by decide +kernel))
  obtain ⟨co7, aa7, ka7, g7, -, ha7, hk7, fa7⟩ := Cond.arrayOver_spec ao3
  have aoi := hts (.arrayOver (.array .int)) (List.mem_of_getElem? (i := 371) (by decide +kernel))
  obtain ⟨co8, aa8, ka8, -, -, ha8, hk8, fa8⟩ := Jvm.Stand.arrayOver_specB aoi
  obtain ⟨cy, hK, h8, h88⟩ : ∃ cy : Nat → ClassId, va_K G vwCl (TY cy) s ∧ s.vm.findClass ("[" ++ (FieldType.array .int).toString) = some (cy 8) ∧ ArrOfT s (cy 8) (.array .int) := by
    refine ⟨fun k => match k with | 0 => aa0 | 1 => aa1 | 2 => aa2 | 3 => aa3 | 4 => aa4 | 5 => aa5 | 6 => aa6 | 7 => aa7 | _ => aa8, ⟨hKc, fun k q hq => ?_⟩, fa8, fun n z => ⟨fun k h => (by cases h), ka8, ha8, co8, hk8⟩⟩
    match k, hq with
    | 0, hq => cases hq; exact ⟨fun n z => ⟨fun k h => (by cases h), ka0, ha0, co0, hk0⟩, fa0⟩
    | 1, hq => cases hq; exact ⟨fun n z => ⟨fun k h => (by cases h), ka1, ha1, co1, hk1⟩, fa1⟩
    | 2, hq => cases hq; exact ⟨fun n z => ⟨fun k h => (by cases h), ka2, ha2, co2, hk2⟩, fa2⟩
    | 3, hq => cases hq; exact ⟨fun n z => ⟨fun k h => (by cases h), ka3, ha3, co3, hk3⟩, fa3⟩
    | 4, hq => cases hq; exact ⟨fun n z => ⟨fun k h => (by cases h), ka4, ha4, co4, hk4⟩, ka4, co4, ha4, hk4, g4, fa4⟩
    | 5, hq => cases hq; exact ⟨fun n z => ⟨fun k h => (by cases h), ka5, ha5, co5, hk5⟩, ka5, co5, ha5, hk5, g5, fa5⟩
    | 6, hq => cases hq; exact ⟨fun n z => ⟨fun k h => (by cases h), ka6, ha6, co6, hk6⟩, ka6, co6, ha6, hk6, g6, fa6⟩
    | 7, hq => cases hq; exact ⟨fun n z => ⟨fun k h => (by cases h), ka7, ha7, co7, hk7⟩, ka7, co7, ha7, hk7, g7, fa7⟩
    | k + 8, hq => simp [TY] at hq
  have hN : NK s := ⟨fun w hw => va_Nw.of (nst_tab w hw) (hts w (nst_in w hw)), va_AO.of ao0, va_AO.of ao1, va_AO.of ao2, va_AO.of ao3, aoi⟩
  have hs := flat_of_before _ hgv
  have hsi : ∀ (i : Nat) (c : Cond), (flatC (Jvm.Cond.and given_1 narrow_1))[i]? = some c → c.before #[Value.ref b] s = true := fun i c h => hs c (List.mem_of_getElem? h)
  have hno : ∀ a : Nat, a < s.heap.size → ¬ (fun q : Nat => s.heap.size ≤ q) a := fun a h => Nat.not_le.mpr h
  obtain ⟨tq, etsw, hT⟩ := va_Tof (tm := (.static "TuneLocks$Town" "SWEET_UNTOLD" "[I")) (ty := .int) (N := 6) (f := swF) (A := (fun q : Nat => s.heap.size ≤ q)) (by decide) (hsi 10 (.arrayOf (.static "TuneLocks$Town" "SWEET_UNTOLD" "[I") .int) rfl) (va_eqt (hsi 11 (.eq (.length (.static "TuneLocks$Town" "SWEET_UNTOLD" "[I")) (.int 6)) rfl)) (fun j hj => by
    rcases (show j = 0 ∨ j = 1 ∨ j = 2 ∨ j = 3 ∨ j = 4 ∨ j = 5 by omega) with rfl | rfl | rfl | rfl | rfl | rfl
    · exact va_eqt (hsi 12 (.eq (.elem (.static "TuneLocks$Town" "SWEET_UNTOLD" "[I") (.int 0)) (.int 0)) rfl)
    · exact va_eqt (hsi 13 (.eq (.elem (.static "TuneLocks$Town" "SWEET_UNTOLD" "[I") (.int 1)) (.int 3)) rfl)
    · exact va_eqt (hsi 14 (.eq (.elem (.static "TuneLocks$Town" "SWEET_UNTOLD" "[I") (.int 2)) (.int 4)) rfl)
    · exact va_eqt (hsi 15 (.eq (.elem (.static "TuneLocks$Town" "SWEET_UNTOLD" "[I") (.int 3)) (.int 7)) rfl)
    · exact va_eqt (hsi 16 (.eq (.elem (.static "TuneLocks$Town" "SWEET_UNTOLD" "[I") (.int 4)) (.int 8)) rfl)
    · exact va_eqt (hsi 17 (.eq (.elem (.static "TuneLocks$Town" "SWEET_UNTOLD" "[I") (.int 5)) (.int 9)) rfl)
    ) hno
  have hZ := va_Zref (A := (fun q : Nat => s.heap.size ≤ q)) (hts (.laysStatic "TuneLocks$Town" "SWEET_UNTOLD" "[I") (List.mem_of_getElem? (i := 677) (by decide +kernel))) (ht (.initialized RX9) k_461) etsw hno
  have hel : ∀ j : Nat, j < 120 → (Cond.eq (.elem (.field (.string "TuneLocks$Reader" 200) "java/lang/String" "value" "[B") (.int (Int32.ofNat j))) (.int (wdB.getD j 0))).before #[Value.ref b] s = true := fun j hj => hs _ (wd_in j hj)
  obtain ⟨adK, adV, hSt, hSe⟩ := vk_Sof (args := #[Value.ref b]) (s := s) (N := 1) (tm := fun _ => (.string "TuneLocks$Reader" 200)) (len := [120]) (byt := [wdB]) (A := (fun q : Nat => s.heap.size ≤ q)) (fun i hi => by
    obtain rfl : i = 0 := by omega
    decide) (fun i _ => hsi 70 (.exactly (.string "TuneLocks$Reader" 200) "java/lang/String") rfl) (fun i _ => hsi 71 (.eq (.field (.string "TuneLocks$Reader" 200) "java/lang/String" "coder" "B") (.int 0)) rfl) (fun i _ => hsi 72 (.arrayOf (.field (.string "TuneLocks$Reader" 200) "java/lang/String" "value" "[B") .byte) rfl) (fun i hi => by
    obtain rfl : i = 0 := by omega
    exact hsi 73 (.eq (.length (.field (.string "TuneLocks$Reader" 200) "java/lang/String" "value" "[B")) (.int 120)) rfl) (fun i hi j hj => by
    obtain rfl : i = 0 := by omega
    exact hel j hj) (fun i j hi hj hij => absurd (by omega) hij) hno
  have hR6 : vk_R RX6 200 wdT (adK 0) s := vk_R.of (hts (.stringRef RX6 200 wdT) sr_in) (hSe 0 (by decide))
  have hS0 := hSt.1 0 (by decide)
  have hCS := va_Zof (A := (fun q : Nat => s.heap.size ≤ q)) (v := .int 1) (hts (.laysStatic "java/lang/String" "COMPACT_STRINGS" "Z") (List.mem_of_getElem? (i := 546) (by decide +kernel))) (ht (.initialized "java/lang/String") k_1098) (va_eqt (hsi 4 (.eq (.static "java/lang/String" "COMPACT_STRINGS" "Z") (.int 1)) rfl)) hno
  have hSF := va_Zqof (A := (fun q : Nat => s.heap.size ≤ q)) (hts (.laysStatic "jdk/internal/util/Preconditions" "SIOOBE_FORMATTER" "Ljava/util/function/BiFunction;") (List.mem_of_getElem? (i := 562) (by decide +kernel))) (ht (.initialized "jdk/internal/util/Preconditions") k_1099) (hsi 5 (.isRef (.static "jdk/internal/util/Preconditions" "SIOOBE_FORMATTER" "Ljava/util/function/BiFunction;")) rfl) hno
  obtain ⟨fo, hFo⟩ : ∃ fo : Option Nat, va_Z "jdk/internal/util/Preconditions" "SIOOBE_FORMATTER" "Ljava/util/function/BiFunction;" (va_rf fo) (fun q : Nat => s.heap.size ≤ q) s s.heap := by
    rcases hSF with h9 | ⟨t9, h9⟩
    · exact ⟨none, h9⟩
    · exact ⟨some t9, h9⟩
  have hXK : XK cy tq (adK 0) (adV 0) fo (fun q : Nat => s.heap.size ≤ q) s := ⟨⟨hZ, hT⟩, ⟨hR6, hS0.1, hS0.2.1, hS0.2.2.1, hS0.2.2.2, hCS, hFo⟩, h88⟩
  have hS : va_S (fun q : Nat => s.heap.size ≤ q) s.heap s.heap [] := va_S.rf
  have hP : va_P G vwCl [] s.heap := fun k q h => by simp at h
  have hD : va_D (fun q : Nat => s.heap.size ≤ q) [] := ⟨fun i j p q h => by simp at h, fun k q h => by simp at h⟩
  have hl := lv_entry ([.ref b]) (n := 4) (Nat.le_of_ble_eq_true rfl)
  rw [lg_entry_eq]
  generalize (lg_sl ([.ref b]) ++ List.replicate (4 - (lg_sl ([.ref b])).length) Slot.unset).toArray = ls at hl ⊢
  have hl : lv_has ls 4 [(0, .ref b)] := hl
  refine va_new (ci := 11) (fs := [.null, .int 0, .null, .null, .int 0, .int 0, .null, .null, .null, .null, .int 0, .null, .null, .null]) (C := RX11) (T := TX11) (N := 14) hx hb ht iX11 tyX11 tyX11_ok hown (ht _ k_1100) (ht _ k_1096) (ht _ k_521) hK hP hD hS hA rfl df11 (Nat.le_of_ble_eq_true rfl) (Nat.le_of_ble_eq_true rfl) dL_law_0 (fun x H hP hD hS => ?_)
  refine lv_dup hx hb dL_law_3 rfl ?_
  have hFc := fr_lastF hD hS hA
  have hPc := fr_lastP hP
  refine va_callv (va_runI (As := []) (rest := [.ref x]) ⟨hx, hb, hml, hown, ht⟩ (n_TLS l G cy _ x) (cwI 0 ht (gc k_1101) rfl rfl rfl (ht _ k_521) (ht _ k_1102) (ht _ k_1103) rfl (by decide +kernel) ⟨Nat.le_of_ble_eq_true rfl, Nat.le_of_ble_eq_true rfl⟩) ⟨EnC.blind, fun U hU hW => ⟨rfl, En.of hU hW hPc hK (fr_lastD (ws := [])) hN, EnC.mv h8 hW⟩⟩ rfl rfl hl.1 rfl (lv_room (Nat.le_of_ble_eq_true rfl)) dL_law_4 ⟨Nat.le_of_ble_eq_true rfl, Nat.le_of_ble_eq_true rfl⟩) hS (fun q _ h => hFc q h) hFc (fun ux t9 H locs ht9 hvm hw hB hz1 hk1 hS => ?_)
  obtain ⟨hP1, hD1⟩ := hB
  rw [ht9] at hP1
  obtain ⟨hP, hD⟩ := fr_last hP hD hFc hk1 hP1 hD1
  clear hFc hPc hP1 hD1 hz1 hk1
  rw [List.nil_append] at hP hD
  obtain ⟨L9, K9, R, I, J, E, B, hP, hD, hRT, hI, hE, hx1, hx2, hUX⟩ := TL_pool hP hD
  refine lv_astore_n (lv' := [(1, .ref x), (0, .ref b)]) hx hb dL_law_7 rfl hl (by decide) rfl (fun ls hl => ?_)
  refine va_new (ci := 12) (fs := [.null, .null, .int 0, .int 0, .int 0, .int 0, .int 0, .int 0, .int 0, .int 0, .long 0, .null, .null, .null, .null, .null, .null, .null, .null, .null, .null, .null, .null, .null, .null, .null, .null, .null, .null, .int 0, .int 0, .int 0, .int 0, .int 0, .int 0, .null, .null, .int 0, .null, .null, .null, .null, .null, .int 0, .int 0, .null, .null, .null, .null, .null, .int 0, .int 0, .null, .null, .null, .null, .null, .null]) (C := RX12) (T := TX12) (N := 58) hx hb ht iX12 tyX12 tyX12_ok hown (ht _ k_1104) (ht _ k_1097) (ht _ k_61) hK hP hD hS hA rfl df12 (Nat.le_of_ble_eq_true rfl) (Nat.le_of_ble_eq_true rfl) dL_law_8 (fun mo H hP hD hS => ?_)
  refine lv_dup hx hb dL_law_11 rfl ?_
  have hFc := fr_lastF hD hS hA
  have hPc := fr_lastP hP
  refine va_callv (va_runI (As := []) (rest := [.ref mo]) ⟨hx, hb, hml, hown, ht⟩ (m_init l G cy _ mo) (cwI 0 ht (gc k_1105) rfl rfl rfl (ht _ k_61) (ht _ k_1106) (ht _ k_1107) rfl (by decide +kernel) ⟨Nat.le_of_ble_eq_true rfl, Nat.le_of_ble_eq_true rfl⟩) ⟨En.blind, fun U hU hW => ⟨rfl, En.of hU hW hPc hK (fr_lastD (ws := [])) hN⟩⟩ rfl rfl hl.1 rfl (lv_room (Nat.le_of_ble_eq_true rfl)) dL_law_12 ⟨Nat.le_of_ble_eq_true rfl, Nat.le_of_ble_eq_true rfl⟩) hS (fun q _ h => hFc q h) hFc (fun umo t9 H locs ht9 hvm hw hB hz1 hk1 hS => ?_)
  obtain ⟨hP1, hD1⟩ := hB
  rw [ht9] at hP1
  obtain ⟨hP, hD⟩ := fr_last hP hD hFc hk1 hP1 hD1
  clear hFc hPc hP1 hD1 hz1 hk1
  refine lv_astore_n (lv' := [(2, .ref mo), (1, .ref x), (0, .ref b)]) hx hb dL_law_15 rfl hl (by decide) rfl (fun ls hl => ?_)
  refine lv_iconst (v := 0) hx hb dL_law_16 (by decide) ?_
  refine lv_istore_n (lv' := [(3, .int 0), (2, .ref mo), (1, .ref x), (0, .ref b)]) hx hb dL_law_17 rfl hl (by decide) rfl (fun ls hl => ?_)
  refine W.widen (k := 400 + 0) (n := 20000 + 11 * 0) (Nat.le_of_ble_eq_true rfl) (Nat.le_of_ble_eq_true rfl) ?_
  exact law_loop l hx hb hr hml hown ht hX hbl hlocks hK hN hXK hx1 hx2 hUX hL 513 0 0 0 H locs ls (by decide) (by decide) (by decide) (by decide) ⟨R, I, J, E, B, _, _, _, _, hRT, hI, hE, hw.1, hw.2.1, hw.2.2.1, hw.2.2.2, hP, hD, hS⟩ hl
