theorem dL_law_33 : decode code 33 = .ok (.tableswitch 1178 0 30 #[139, 202, 225, 238, 261, 284, 317, 360, 403, 452, 511, 534, 567, 600, 633, 676, 725, 758, 791, 804, 827, 866, 899, 932, 1007, 1030, 1053, 1076, 1109, 1132, 1155], 139) := by decide +kernel
theorem dL_law_1211 : decode code 1211 = .ok (.iinc 3 6, 3) := by decide +kernel
theorem dL_law_1214 : decode code 1214 = .ok (.goto (-1196), 3) := by decide +kernel
theorem dL_law_18 : decode code 18 = .ok (.iload_n 3, 1) := by decide +kernel
theorem dL_law_19 : decode code 19 = .ok (.aload_n 0, 1) := by decide +kernel
theorem dL_law_20 : decode code 20 = .ok (.arraylength, 1) := by decide +kernel
theorem dL_law_21 : decode code 21 = .ok (.bipush 6, 2) := by decide +kernel
theorem dL_law_23 : decode code 23 = .ok (.isub, 1) := by decide +kernel
theorem dL_law_24 : decode code 24 = .ok (.if_icmp .gt 1193, 3) := by decide +kernel
theorem dL_law_1217 : decode code 1217 = .ok (.iconst 1, 1) := by decide +kernel
theorem dL_law_1218 : decode code 1218 = .ok (.ireturn, 1) := by decide +kernel
theorem dL_law_27 : decode code 27 = .ok (.aload_n 0, 1) := by decide +kernel
theorem dL_law_28 : decode code 28 = .ok (.iload_n 3, 1) := by decide +kernel
theorem dL_law_29 : decode code 29 = .ok (.iaload, 1) := by decide +kernel
theorem dL_law_30 : decode code 30 = .ok (.bipush 31, 2) := by decide +kernel
theorem dL_law_32 : decode code 32 = .ok (.iand, 1) := by decide +kernel
section LAWS
variable {p : Program} {e : Env} {s : State} {m : MethodId} {below : List Frame} {meth : Method} {c : Code} {b N9 : Nat} {xs : Nat → Int32} {G : va_G} {cy : Nat → ClassId} {x mo : Nat} {L : List Nat} {K : Nat → Nat} {h : Nat → Nat} {tq qq wq : Nat} {fo : Option Nat}
set_option maxHeartbeats 4000000 in
set_option maxRecDepth 100000 in
theorem law_loop (l : Launch) (hx : p.tables.exec = Jvm.exec) (hb : c.code = code) (hr : meth.sig.returnType = ret) (hml : c.maxLocals = 4) (hown : s.vm.findClass RL = some m.cls) (ht : ∀ w ∈ TBg, w.before #[Value.ref b] s = true) (hX : va_X b N9 xs s s.heap) (hbl : b < s.heap.size) (hlocks : meth.locks = false) (hK : va_K G vwCl (TY cy) s) (hN : NK s) (hXK : XK cy tq qq wq fo (fun q : Nat => s.heap.size ≤ q) s) (hx1 : x ∈ L) (hx2 : K x = 0) (hUX : ∀ z, K z = 0 → z = x) (hN9 : N9 ≤ 3072) : ∀ (M n : Nat) (i : Int32) (T : Int) (H : Heap) (locs : List Loc) (ls : Array Slot), i.toInt = 6 * (n : Int) → 513 ≤ n + M → n ≤ 512 → 0 ≤ T ∧ T ≤ 100000 → LI G cy s L K mo h T H locs → lv_has ls 4 [(3, .int i), (2, .ref mo), (1, .ref x), (0, .ref b)] → W p l e room_1 s m #[Value.ref b] below meth c H locs (400 + n) (20000 + 11 * n) (lw_Z below #[Value.ref b] s) (F0 m 18 ls []) := by
  intro M
  induction M with
  | zero =>
    intro n i T H locs ls hi hM hn
    omega
  | succ M ih =>
    intro n i T H locs ls hi hM hn hT hLI hl
    have hS : va_S (fun q : Nat => s.heap.size ≤ q) s.heap H locs := by
      obtain ⟨R, I, J, E, B, v, nm, f, g, hRT, hI, hE, hv, hf, hR, hL, hP, hD, hS⟩ := hLI
      exact hS
    have hA : ∀ q : Nat, s.heap.size ≤ q → (fun q : Nat => s.heap.size ≤ q) q := fun _ h => h
    have hbA : ¬ (fun q : Nat => s.heap.size ≤ q) b := Nat.not_le.mpr hbl
    have hc1 : (400 + n) + 1 ≤ room_1.cells ∧ (20000 + 11 * n) + 11 ≤ room_1.slots := ⟨Nat.le_trans (show 400 + n + 1 ≤ 1000 by omega) (Nat.le_of_ble_eq_true rfl), Nat.le_trans (show 20000 + 11 * n + 11 ≤ 40000 by omega) (Nat.le_of_ble_eq_true rfl)⟩
    have kk : ∀ (T9 : Int) (H : Heap) (locs : List Loc), i.toInt + 6 ≤ N9 → 0 ≤ T9 ∧ T9 ≤ 100000 → LI G cy s L K mo h T9 H locs → W p l e room_1 s m #[Value.ref b] below meth c H locs (400 + n + 1) (20000 + 11 * n + 11) (lw_Z below #[Value.ref b] s) (F0 m 1211 ls []) := by
      intro T9 H locs hi6 hT9 hLI9
      obtain ⟨y, ey⟩ : ∃ y : Int32, y = i + 6 := ⟨_, rfl⟩
      have z6 : (6 : Int32).toInt = 6 := by decide
      have hy := ow_add ey (by omega) (by omega)
      refine lv_iinc (v := y) (lv' := [(3, .int y), (2, .ref mo), (1, .ref x), (0, .ref b)]) hx hb dL_law_1211 hl (k := 0) rfl (by rw [ey]; rfl) (by decide) rfl (fun ls hl => ?_)
      refine lv_goto (tgt := 18) hx hb dL_law_1214 (by decide) ?_
      refine W.widen (k := 400 + (n + 1)) (n := 20000 + 11 * (n + 1)) (by omega) (by omega) ?_
      exact ih (n + 1) y T9 H locs ls (by omega) (by omega) (by omega) hT9 hLI9 hl
    refine lv_iload_n hx hb dL_law_18 rfl (lv_at hl 0 rfl) ?_
    refine lv_aload_n hx hb dL_law_19 rfl (lv_at hl 3 rfl) ?_
    refine va_slen hx hb hX hbl hbA hS dL_law_20 ?_
    refine lv_topi (fun nl enl => ?_)
    refine lv_bipush (v := 6) hx hb dL_law_21 (by decide) ?_
    refine lv_isub hx hb dL_law_23 ?_
    refine lv_topi (fun w ew => ?_)
    have hnl : nl.toInt = N9 := by
      rw [enl]
      exact Int32.toInt_ofNat_of_lt (by omega)
    have z6 : (6 : Int32).toInt = 6 := by decide
    have hw := ow_sub ew (by omega) (by omega)
    refine lv_icmp_gt (tgt := 1217) hx hb dL_law_24 (by decide) (fun c9 => ?_) (fun c9 => ?_)
    · refine lv_iconst (v := 1) hx hb dL_law_1217 (by decide) ?_
      refine va_forget (fun q hq => hS.2.2 q hq) ?_
      refine W.widen (k := 600000) (n := 7302250) (by omega) (by omega) ?_
      exact lw_ret hx hb hr hlocks dL_law_1218
    · rw [ow_lt] at c9
      have hi0 : 0 ≤ i.toInt := by omega
      have hi1 : i.toInt + 6 ≤ N9 := by omega
      have kk := fun (T9 : Int) (H : Heap) (locs : List Loc) => kk T9 H locs hi1
      refine lv_aload_n hx hb dL_law_27 rfl (lv_at hl 3 rfl) ?_
      refine lv_iload_n hx hb dL_law_28 rfl (lv_at hl 0 rfl) ?_
      refine va_sld hx hb hX hbl hbA hS (vi_0 hi0 (by omega)) dL_law_29 ?_
      refine lv_topi (fun sc esc => ?_)
      refine lv_bipush (v := 31) hx hb dL_law_30 (by decide) ?_
      refine lv_iand hx hb dL_law_32 ?_
      obtain ⟨j, hj, ej⟩ := pk_andE sc (m := 31) 5 (by decide)
      refine ow_top (nI j) ej ?_
      have hj32 : j = 0 ∨ j = 1 ∨ j = 2 ∨ j = 3 ∨ j = 4 ∨ j = 5 ∨ j = 6 ∨ j = 7 ∨ j = 8 ∨ j = 9 ∨ j = 10 ∨ j = 11 ∨ j = 12 ∨ j = 13 ∨ j = 14 ∨ j = 15 ∨ j = 16 ∨ j = 17 ∨ j = 18 ∨ j = 19 ∨ j = 20 ∨ j = 21 ∨ j = 22 ∨ j = 23 ∨ j = 24 ∨ j = 25 ∨ j = 26 ∨ j = 27 ∨ j = 28 ∨ j = 29 ∨ j = 30 ∨ j = 31 := by omega
      rcases hj32 with rfl | rfl | rfl | rfl | rfl | rfl | rfl | rfl | rfl | rfl | rfl | rfl | rfl | rfl | rfl | rfl | rfl | rfl | rfl | rfl | rfl | rfl | rfl | rfl | rfl | rfl | rfl | rfl | rfl | rfl | rfl | rfl
      · refine lv_tableIn (tgt := 172) hx hb dL_law_33 (by decide +kernel) (by decide +kernel) rfl (by decide) ?_
        exact law_0 l hx hb hr hml hown ht hX hbl hlocks hK hN hXK hx1 hx2 hUX hN9 hi0 hi1 hT hLI hc1 hl kk
      · refine lv_tableIn (tgt := 235) hx hb dL_law_33 (by decide +kernel) (by decide +kernel) rfl (by decide) ?_
        exact law_1 l hx hb hr hml hown ht hX hbl hlocks hK hN hXK hx1 hx2 hUX hN9 hi0 hi1 hT hLI hc1 hl kk
      · refine lv_tableIn (tgt := 258) hx hb dL_law_33 (by decide +kernel) (by decide +kernel) rfl (by decide) ?_
        exact law_2 l hx hb hr hml hown ht hX hbl hlocks hK hN hXK hx1 hx2 hUX hN9 hi0 hi1 hT hLI hc1 hl kk
      · refine lv_tableIn (tgt := 271) hx hb dL_law_33 (by decide +kernel) (by decide +kernel) rfl (by decide) ?_
        exact law_3 l hx hb hr hml hown ht hX hbl hlocks hK hN hXK hx1 hx2 hUX hN9 hi0 hi1 hT hLI hc1 hl kk
      · refine lv_tableIn (tgt := 294) hx hb dL_law_33 (by decide +kernel) (by decide +kernel) rfl (by decide) ?_
        exact law_4 l hx hb hr hml hown ht hX hbl hlocks hK hN hXK hx1 hx2 hUX hN9 hi0 hi1 hT hLI hc1 hl kk
      · refine lv_tableIn (tgt := 317) hx hb dL_law_33 (by decide +kernel) (by decide +kernel) rfl (by decide) ?_
        exact law_5 l hx hb hr hml hown ht hX hbl hlocks hK hN hXK hx1 hx2 hUX hN9 hi0 hi1 hT hLI hc1 hl kk
      · refine lv_tableIn (tgt := 350) hx hb dL_law_33 (by decide +kernel) (by decide +kernel) rfl (by decide) ?_
        exact law_6 l hx hb hr hml hown ht hX hbl hlocks hK hN hXK hx1 hx2 hUX hN9 hi0 hi1 hT hLI hc1 hl kk
      · refine lv_tableIn (tgt := 393) hx hb dL_law_33 (by decide +kernel) (by decide +kernel) rfl (by decide) ?_
        exact law_7 l hx hb hr hml hown ht hX hbl hlocks hK hN hXK hx1 hx2 hUX hN9 hi0 hi1 hT hLI hc1 hl kk
      · refine lv_tableIn (tgt := 436) hx hb dL_law_33 (by decide +kernel) (by decide +kernel) rfl (by decide) ?_
        exact law_8 l hx hb hr hml hown ht hX hbl hlocks hK hN hXK hx1 hx2 hUX hN9 hi0 hi1 hT hLI hc1 hl kk
      · refine lv_tableIn (tgt := 485) hx hb dL_law_33 (by decide +kernel) (by decide +kernel) rfl (by decide) ?_
        exact law_9 l hx hb hr hml hown ht hX hbl hlocks hK hN hXK hx1 hx2 hUX hN9 hi0 hi1 hT hLI hc1 hl kk
      · refine lv_tableIn (tgt := 544) hx hb dL_law_33 (by decide +kernel) (by decide +kernel) rfl (by decide) ?_
        exact law_10 l hx hb hr hml hown ht hX hbl hlocks hK hN hXK hx1 hx2 hUX hN9 hi0 hi1 hT hLI hc1 hl kk
      · refine lv_tableIn (tgt := 567) hx hb dL_law_33 (by decide +kernel) (by decide +kernel) rfl (by decide) ?_
        exact law_11 l hx hb hr hml hown ht hX hbl hlocks hK hN hXK hx1 hx2 hUX hN9 hi0 hi1 hT hLI hc1 hl kk
      · refine lv_tableIn (tgt := 600) hx hb dL_law_33 (by decide +kernel) (by decide +kernel) rfl (by decide) ?_
        exact law_12 l hx hb hr hml hown ht hX hbl hlocks hK hN hXK hx1 hx2 hUX hN9 hi0 hi1 hT hLI hc1 hl kk
      · refine lv_tableIn (tgt := 633) hx hb dL_law_33 (by decide +kernel) (by decide +kernel) rfl (by decide) ?_
        exact law_13 l hx hb hr hml hown ht hX hbl hlocks hK hN hXK hx1 hx2 hUX hN9 hi0 hi1 hT hLI hc1 hl kk
      · refine lv_tableIn (tgt := 666) hx hb dL_law_33 (by decide +kernel) (by decide +kernel) rfl (by decide) ?_
        exact law_14 l hx hb hr hml hown ht hX hbl hlocks hK hN hXK hx1 hx2 hUX hN9 hi0 hi1 hT hLI hc1 hl kk
      · refine lv_tableIn (tgt := 709) hx hb dL_law_33 (by decide +kernel) (by decide +kernel) rfl (by decide) ?_
        exact law_15 l hx hb hr hml hown ht hX hbl hlocks hK hN hXK hx1 hx2 hUX hN9 hi0 hi1 hT hLI hc1 hl kk
      · refine lv_tableIn (tgt := 758) hx hb dL_law_33 (by decide +kernel) (by decide +kernel) rfl (by decide) ?_
        exact law_16 l hx hb hr hml hown ht hX hbl hlocks hK hN hXK hx1 hx2 hUX hN9 hi0 hi1 hT hLI hc1 hl kk
      · refine lv_tableIn (tgt := 791) hx hb dL_law_33 (by decide +kernel) (by decide +kernel) rfl (by decide) ?_
        exact law_17 l hx hb hr hml hown ht hX hbl hlocks hK hN hXK hx1 hx2 hUX hN9 hi0 hi1 hT hLI hc1 hl kk
      · refine lv_tableIn (tgt := 824) hx hb dL_law_33 (by decide +kernel) (by decide +kernel) rfl (by decide) ?_
        exact law_18 l hx hb hr hml hown ht hX hbl hlocks hK hN hXK hx1 hx2 hUX hN9 hi0 hi1 hT hLI hc1 hl kk
      · refine lv_tableIn (tgt := 837) hx hb dL_law_33 (by decide +kernel) (by decide +kernel) rfl (by decide) ?_
        exact law_19 l hx hb hr hml hown ht hX hbl hlocks hK hN hXK hx1 hx2 hUX hN9 hi0 hi1 hT hLI hc1 hl kk
      · refine lv_tableIn (tgt := 860) hx hb dL_law_33 (by decide +kernel) (by decide +kernel) rfl (by decide) ?_
        exact law_20 l hx hb hr hml hown ht hX hbl hlocks hK hN hXK hx1 hx2 hUX hN9 hi0 hi1 hT hLI hc1 hl kk
      · refine lv_tableIn (tgt := 899) hx hb dL_law_33 (by decide +kernel) (by decide +kernel) rfl (by decide) ?_
        exact law_21 l hx hb hr hml hown ht hX hbl hlocks hK hN hXK hx1 hx2 hUX hN9 hi0 hi1 hT hLI hc1 hl kk
      · refine lv_tableIn (tgt := 932) hx hb dL_law_33 (by decide +kernel) (by decide +kernel) rfl (by decide) ?_
        exact law_22 l hx hb hr hml hown ht hX hbl hlocks hK hN hXK hx1 hx2 hUX hN9 hi0 hi1 hT hLI hc1 hl kk
      · refine lv_tableIn (tgt := 965) hx hb dL_law_33 (by decide +kernel) (by decide +kernel) rfl (by decide) ?_
        exact law_23 l hx hb hr hml hown ht hX hbl hlocks hK hN hXK hx1 hx2 hUX hN9 hi0 hi1 hT hLI hc1 hl kk
      · refine lv_tableIn (tgt := 1040) hx hb dL_law_33 (by decide +kernel) (by decide +kernel) rfl (by decide) ?_
        exact law_24 l hx hb hr hml hown ht hX hbl hlocks hK hN hXK hx1 hx2 hUX hN9 hi0 hi1 hT hLI hc1 hl kk
      · refine lv_tableIn (tgt := 1063) hx hb dL_law_33 (by decide +kernel) (by decide +kernel) rfl (by decide) ?_
        exact law_25 l hx hb hr hml hown ht hX hbl hlocks hK hN hXK hx1 hx2 hUX hN9 hi0 hi1 hT hLI hc1 hl kk
      · refine lv_tableIn (tgt := 1086) hx hb dL_law_33 (by decide +kernel) (by decide +kernel) rfl (by decide) ?_
        exact law_26 l hx hb hr hml hown ht hX hbl hlocks hK hN hXK hx1 hx2 hUX hN9 hi0 hi1 hT hLI hc1 hl kk
      · refine lv_tableIn (tgt := 1109) hx hb dL_law_33 (by decide +kernel) (by decide +kernel) rfl (by decide) ?_
        exact law_27 l hx hb hr hml hown ht hX hbl hlocks hK hN hXK hx1 hx2 hUX hN9 hi0 hi1 hT hLI hc1 hl kk
      · refine lv_tableIn (tgt := 1142) hx hb dL_law_33 (by decide +kernel) (by decide +kernel) rfl (by decide) ?_
        exact law_28 l hx hb hr hml hown ht hX hbl hlocks hK hN hXK hx1 hx2 hUX hN9 hi0 hi1 hT hLI hc1 hl kk
      · refine lv_tableIn (tgt := 1165) hx hb dL_law_33 (by decide +kernel) (by decide +kernel) rfl (by decide) ?_
        exact law_29 l hx hb hr hml hown ht hX hbl hlocks hK hN hXK hx1 hx2 hUX hN9 hi0 hi1 hT hLI hc1 hl kk
      · refine lv_tableIn (tgt := 1188) hx hb dL_law_33 (by decide +kernel) (by decide +kernel) rfl (by decide) ?_
        exact law_30 l hx hb hr hml hown ht hX hbl hlocks hK hN hXK hx1 hx2 hUX hN9 hi0 hi1 hT hLI hc1 hl kk
      · refine lv_tableOut (tgt := 1211) hx hb dL_law_33 (by decide +kernel) (by decide) ?_
        refine W.widen (k := 400 + n + 1) (n := 20000 + 11 * n + 11) (by omega) (by omega) ?_
        exact kk T H locs hT hLI
end LAWS
