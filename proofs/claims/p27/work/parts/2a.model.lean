theorem k_58 : (Cond.code yX12_isIn cX12_isIn 3 (some .boolean)) ∈ TBg := tb_mem 1337 (by decide +kernel) (by decide +kernel)
theorem k_59 : (Cond.methodLink RX12 311 yX12_isIn) ∈ TBg := tb_mem 1335 (by decide +kernel) (by decide +kernel)
theorem k_60 : (Cond.static yX12_isIn) ∈ TBg := tb_mem 1336 (by decide +kernel) (by decide +kernel)
theorem k_61 : (Cond.initialized RX12) ∈ TBg := tb_mem 96 (by decide +kernel) (by decide +kernel)
theorem dX12_isIn_0 : decode cX12_isIn 0 = .ok (.iload_n 0, 1) := by decide +kernel
theorem dX12_isIn_1 : decode cX12_isIn 1 = .ok (.iload_n 1, 1) := by decide +kernel
theorem dX12_isIn_2 : decode cX12_isIn 2 = .ok (.if_icmp .lt 12, 3) := by decide +kernel
theorem dX12_isIn_14 : decode cX12_isIn 14 = .ok (.iconst 0, 1) := by decide +kernel
theorem dX12_isIn_15 : decode cX12_isIn 15 = .ok (.ireturn, 1) := by decide +kernel
theorem dX12_isIn_5 : decode cX12_isIn 5 = .ok (.iload_n 0, 1) := by decide +kernel
theorem dX12_isIn_6 : decode cX12_isIn 6 = .ok (.iload_n 2, 1) := by decide +kernel
theorem dX12_isIn_7 : decode cX12_isIn 7 = .ok (.if_icmp .gt 7, 3) := by decide +kernel
theorem dX12_isIn_10 : decode cX12_isIn 10 = .ok (.iconst 1, 1) := by decide +kernel
theorem dX12_isIn_11 : decode cX12_isIn 11 = .ok (.goto 4, 3) := by decide +kernel
theorem dX12_away_0 : decode cX12_away 0 = .ok (.iload_n 0, 1) := by decide +kernel
theorem dX12_away_1 : decode cX12_away 1 = .ok (.ifCond .ge 8, 3) := by decide +kernel
theorem dX12_away_9 : decode cX12_away 9 = .ok (.iload_n 0, 1) := by decide +kernel
theorem dX12_away_10 : decode cX12_away 10 = .ok (.ireturn, 1) := by decide +kernel
theorem dX12_away_4 : decode cX12_away 4 = .ok (.iload_n 0, 1) := by decide +kernel
theorem dX12_away_5 : decode cX12_away 5 = .ok (.ineg, 1) := by decide +kernel
theorem dX12_away_6 : decode cX12_away 6 = .ok (.goto 4, 3) := by decide +kernel
theorem dX12_lower_0 : decode cX12_lower 0 = .ok (.iload_n 0, 1) := by decide +kernel
theorem dX12_lower_1 : decode cX12_lower 1 = .ok (.iload_n 1, 1) := by decide +kernel
theorem dX12_lower_2 : decode cX12_lower 2 = .ok (.if_icmp .ge 7, 3) := by decide +kernel
theorem dX12_lower_9 : decode cX12_lower 9 = .ok (.iload_n 1, 1) := by decide +kernel
theorem dX12_lower_10 : decode cX12_lower 10 = .ok (.ireturn, 1) := by decide +kernel
theorem dX12_lower_5 : decode cX12_lower 5 = .ok (.iload_n 0, 1) := by decide +kernel
theorem dX12_lower_6 : decode cX12_lower 6 = .ok (.goto 4, 3) := by decide +kernel
theorem dX12_isLetter_0 : decode cX12_isLetter 0 = .ok (.iload_n 0, 1) := by decide +kernel
theorem dX12_isLetter_1 : decode cX12_isLetter 1 = .ok (.bipush 97, 2) := by decide +kernel
theorem dX12_isLetter_3 : decode cX12_isLetter 3 = .ok (.if_icmp .lt 13, 3) := by decide +kernel
theorem dX12_isLetter_16 : decode cX12_isLetter 16 = .ok (.iconst 0, 1) := by decide +kernel
theorem dX12_isLetter_17 : decode cX12_isLetter 17 = .ok (.ireturn, 1) := by decide +kernel
theorem dX12_isLetter_6 : decode cX12_isLetter 6 = .ok (.iload_n 0, 1) := by decide +kernel
theorem dX12_isLetter_7 : decode cX12_isLetter 7 = .ok (.bipush 122, 2) := by decide +kernel
theorem dX12_isLetter_9 : decode cX12_isLetter 9 = .ok (.if_icmp .gt 7, 3) := by decide +kernel
theorem dX12_isLetter_12 : decode cX12_isLetter 12 = .ok (.iconst 1, 1) := by decide +kernel
theorem dX12_isLetter_13 : decode cX12_isLetter 13 = .ok (.goto 4, 3) := by decide +kernel
theorem dX12_isDigit_0 : decode cX12_isDigit 0 = .ok (.iload_n 0, 1) := by decide +kernel
theorem dX12_isDigit_1 : decode cX12_isDigit 1 = .ok (.bipush 48, 2) := by decide +kernel
theorem dX12_isDigit_3 : decode cX12_isDigit 3 = .ok (.if_icmp .lt 13, 3) := by decide +kernel
theorem dX12_isDigit_16 : decode cX12_isDigit 16 = .ok (.iconst 0, 1) := by decide +kernel
theorem dX12_isDigit_17 : decode cX12_isDigit 17 = .ok (.ireturn, 1) := by decide +kernel
theorem dX12_isDigit_6 : decode cX12_isDigit 6 = .ok (.iload_n 0, 1) := by decide +kernel
theorem dX12_isDigit_7 : decode cX12_isDigit 7 = .ok (.bipush 57, 2) := by decide +kernel
theorem dX12_isDigit_9 : decode cX12_isDigit 9 = .ok (.if_icmp .gt 7, 3) := by decide +kernel
theorem dX12_isDigit_12 : decode cX12_isDigit 12 = .ok (.iconst 1, 1) := by decide +kernel
theorem dX12_isDigit_13 : decode cX12_isDigit 13 = .ok (.goto 4, 3) := by decide +kernel
theorem dX12_isSign_0 : decode cX12_isSign 0 = .ok (.iload_n 0, 1) := by decide +kernel
theorem dX12_isSign_1 : decode cX12_isSign 1 = .ok (.bipush 59, 2) := by decide +kernel
theorem dX12_isSign_3 : decode cX12_isSign 3 = .ok (.if_icmp .eq 45, 3) := by decide +kernel
theorem dX12_isSign_48 : decode cX12_isSign 48 = .ok (.iconst 1, 1) := by decide +kernel
theorem dX12_isSign_49 : decode cX12_isSign 49 = .ok (.goto 4, 3) := by decide +kernel
theorem dX12_isSign_53 : decode cX12_isSign 53 = .ok (.ireturn, 1) := by decide +kernel
theorem dX12_isSign_6 : decode cX12_isSign 6 = .ok (.iload_n 0, 1) := by decide +kernel
theorem dX12_isSign_7 : decode cX12_isSign 7 = .ok (.bipush 40, 2) := by decide +kernel
theorem dX12_isSign_9 : decode cX12_isSign 9 = .ok (.if_icmp .eq 39, 3) := by decide +kernel
theorem dX12_isSign_12 : decode cX12_isSign 12 = .ok (.iload_n 0, 1) := by decide +kernel
theorem dX12_isSign_13 : decode cX12_isSign 13 = .ok (.bipush 41, 2) := by decide +kernel
theorem dX12_isSign_15 : decode cX12_isSign 15 = .ok (.if_icmp .eq 33, 3) := by decide +kernel
theorem dX12_isSign_18 : decode cX12_isSign 18 = .ok (.iload_n 0, 1) := by decide +kernel
theorem dX12_isSign_19 : decode cX12_isSign 19 = .ok (.bipush 60, 2) := by decide +kernel
theorem dX12_isSign_21 : decode cX12_isSign 21 = .ok (.if_icmp .eq 27, 3) := by decide +kernel
theorem dX12_isSign_24 : decode cX12_isSign 24 = .ok (.iload_n 0, 1) := by decide +kernel
theorem dX12_isSign_25 : decode cX12_isSign 25 = .ok (.bipush 62, 2) := by decide +kernel
theorem dX12_isSign_27 : decode cX12_isSign 27 = .ok (.if_icmp .eq 21, 3) := by decide +kernel
theorem dX12_isSign_30 : decode cX12_isSign 30 = .ok (.iload_n 0, 1) := by decide +kernel
theorem dX12_isSign_31 : decode cX12_isSign 31 = .ok (.bipush 61, 2) := by decide +kernel
theorem dX12_isSign_33 : decode cX12_isSign 33 = .ok (.if_icmp .eq 15, 3) := by decide +kernel
theorem dX12_isSign_36 : decode cX12_isSign 36 = .ok (.iload_n 0, 1) := by decide +kernel
theorem dX12_isSign_37 : decode cX12_isSign 37 = .ok (.bipush 43, 2) := by decide +kernel
theorem dX12_isSign_39 : decode cX12_isSign 39 = .ok (.if_icmp .eq 9, 3) := by decide +kernel
theorem dX12_isSign_42 : decode cX12_isSign 42 = .ok (.iload_n 0, 1) := by decide +kernel
theorem dX12_isSign_43 : decode cX12_isSign 43 = .ok (.bipush 45, 2) := by decide +kernel
theorem dX12_isSign_45 : decode cX12_isSign 45 = .ok (.if_icmp .ne 7, 3) := by decide +kernel
theorem dX12_isSign_52 : decode cX12_isSign 52 = .ok (.iconst 0, 1) := by decide +kernel
theorem dX12_isTune_0 : decode cX12_isTune 0 = .ok (.iload_n 1, 1) := by decide +kernel
theorem dX12_isTune_1 : decode cX12_isTune 1 = .ok (.iconst 0, 1) := by decide +kernel
theorem dX12_isTune_2 : decode cX12_isTune 2 = .ok (.aload_n 0, 1) := by decide +kernel
theorem dX12_isTune_3 : decode cX12_isTune 3 = .ok (.getfield 20, 3) := by decide +kernel
theorem dX12_isTune_6 : decode cX12_isTune 6 = .ok (.aload_n 0, 1) := by decide +kernel
theorem dX12_isTune_7 : decode cX12_isTune 7 = .ok (.getfield 227, 3) := by decide +kernel
theorem dX12_isTune_10 : decode cX12_isTune 10 = .ok (.iaload, 1) := by decide +kernel
theorem dX12_isTune_11 : decode cX12_isTune 11 = .ok (.iconst 1, 1) := by decide +kernel
theorem dX12_isTune_12 : decode cX12_isTune 12 = .ok (.isub, 1) := by decide +kernel
theorem dX12_isTune_13 : decode cX12_isTune 13 = .ok (.invokestatic 311, 3) := by decide +kernel
theorem dX12_isTune_16 : decode cX12_isTune 16 = .ok (.ireturn, 1) := by decide +kernel
theorem dX12_isLock_0 : decode cX12_isLock 0 = .ok (.iload_n 1, 1) := by decide +kernel
theorem dX12_isLock_1 : decode cX12_isLock 1 = .ok (.iconst 0, 1) := by decide +kernel
theorem dX12_isLock_2 : decode cX12_isLock 2 = .ok (.aload_n 0, 1) := by decide +kernel
theorem dX12_isLock_3 : decode cX12_isLock 3 = .ok (.getfield 24, 3) := by decide +kernel
theorem dX12_isLock_6 : decode cX12_isLock 6 = .ok (.aload_n 0, 1) := by decide +kernel
theorem dX12_isLock_7 : decode cX12_isLock 7 = .ok (.getfield 227, 3) := by decide +kernel
theorem dX12_isLock_10 : decode cX12_isLock 10 = .ok (.iaload, 1) := by decide +kernel
theorem dX12_isLock_11 : decode cX12_isLock 11 = .ok (.iconst 1, 1) := by decide +kernel
theorem dX12_isLock_12 : decode cX12_isLock 12 = .ok (.isub, 1) := by decide +kernel
theorem dX12_isLock_13 : decode cX12_isLock 13 = .ok (.invokestatic 311, 3) := by decide +kernel
theorem dX12_isLock_16 : decode cX12_isLock 16 = .ok (.ireturn, 1) := by decide +kernel
theorem dX12_songOf_0 : decode cX12_songOf 0 = .ok (.bipush 14, 2) := by decide +kernel
theorem dX12_songOf_2 : decode cX12_songOf 2 = .ok (.aload_n 0, 1) := by decide +kernel
theorem dX12_songOf_3 : decode cX12_songOf 3 = .ok (.getfield 227, 3) := by decide +kernel
theorem dX12_songOf_6 : decode cX12_songOf 6 = .ok (.imul, 1) := by decide +kernel
theorem dX12_songOf_7 : decode cX12_songOf 7 = .ok (.iload_n 1, 1) := by decide +kernel
theorem dX12_songOf_8 : decode cX12_songOf 8 = .ok (.iadd, 1) := by decide +kernel
theorem dX12_songOf_9 : decode cX12_songOf 9 = .ok (.ireturn, 1) := by decide +kernel
theorem dX12_manyOf_0 : decode cX12_manyOf 0 = .ok (.iload_n 1, 1) := by decide +kernel
theorem dX12_manyOf_1 : decode cX12_manyOf 1 = .ok (.bipush 28, 2) := by decide +kernel
theorem dX12_manyOf_3 : decode cX12_manyOf 3 = .ok (.if_icmp .ne 10, 3) := by decide +kernel
theorem dX12_manyOf_13 : decode cX12_manyOf 13 = .ok (.aload_n 0, 1) := by decide +kernel
theorem dX12_manyOf_14 : decode cX12_manyOf 14 = .ok (.getfield 33, 3) := by decide +kernel
theorem dX12_manyOf_17 : decode cX12_manyOf 17 = .ok (.iload_n 1, 1) := by decide +kernel
theorem dX12_manyOf_18 : decode cX12_manyOf 18 = .ok (.iaload, 1) := by decide +kernel
theorem dX12_manyOf_19 : decode cX12_manyOf 19 = .ok (.ireturn, 1) := by decide +kernel
theorem dX12_manyOf_6 : decode cX12_manyOf 6 = .ok (.aload_n 0, 1) := by decide +kernel
theorem dX12_manyOf_7 : decode cX12_manyOf 7 = .ok (.getfield 236, 3) := by decide +kernel
theorem dX12_manyOf_10 : decode cX12_manyOf 10 = .ok (.goto 9, 3) := by decide +kernel
theorem dX12_stepOf_0 : decode cX12_stepOf 0 = .ok (.aload_n 0, 1) := by decide +kernel
theorem dX12_stepOf_1 : decode cX12_stepOf 1 = .ok (.getfield 36, 3) := by decide +kernel
theorem dX12_stepOf_4 : decode cX12_stepOf 4 = .ok (.bipush 40, 2) := by decide +kernel
theorem dX12_stepOf_6 : decode cX12_stepOf 6 = .ok (.iload_n 1, 1) := by decide +kernel
theorem dX12_stepOf_7 : decode cX12_stepOf 7 = .ok (.imul, 1) := by decide +kernel
theorem dX12_stepOf_8 : decode cX12_stepOf 8 = .ok (.iload_n 2, 1) := by decide +kernel
theorem dX12_stepOf_9 : decode cX12_stepOf 9 = .ok (.iadd, 1) := by decide +kernel
theorem dX12_stepOf_10 : decode cX12_stepOf 10 = .ok (.iconst 1, 1) := by decide +kernel
theorem dX12_stepOf_11 : decode cX12_stepOf 11 = .ok (.iadd, 1) := by decide +kernel
theorem dX12_stepOf_12 : decode cX12_stepOf 12 = .ok (.iaload, 1) := by decide +kernel
theorem dX12_stepOf_13 : decode cX12_stepOf 13 = .ok (.aload_n 0, 1) := by decide +kernel
theorem dX12_stepOf_14 : decode cX12_stepOf 14 = .ok (.getfield 36, 3) := by decide +kernel
theorem dX12_stepOf_17 : decode cX12_stepOf 17 = .ok (.bipush 40, 2) := by decide +kernel
theorem dX12_stepOf_19 : decode cX12_stepOf 19 = .ok (.iload_n 1, 1) := by decide +kernel
theorem dX12_stepOf_20 : decode cX12_stepOf 20 = .ok (.imul, 1) := by decide +kernel
theorem dX12_stepOf_21 : decode cX12_stepOf 21 = .ok (.iload_n 2, 1) := by decide +kernel
theorem dX12_stepOf_22 : decode cX12_stepOf 22 = .ok (.iadd, 1) := by decide +kernel
theorem dX12_stepOf_23 : decode cX12_stepOf 23 = .ok (.iaload, 1) := by decide +kernel
theorem dX12_stepOf_24 : decode cX12_stepOf 24 = .ok (.isub, 1) := by decide +kernel
theorem dX12_stepOf_25 : decode cX12_stepOf 25 = .ok (.ireturn, 1) := by decide +kernel
theorem dX12_isOutOfPace_0 : decode cX12_isOutOfPace 0 = .ok (.aload_n 0, 1) := by decide +kernel
theorem dX12_isOutOfPace_1 : decode cX12_isOutOfPace 1 = .ok (.getfield 39, 3) := by decide +kernel
theorem dX12_isOutOfPace_4 : decode cX12_isOutOfPace 4 = .ok (.bipush 40, 2) := by decide +kernel
theorem dX12_isOutOfPace_6 : decode cX12_isOutOfPace 6 = .ok (.iload_n 2, 1) := by decide +kernel
theorem dX12_isOutOfPace_7 : decode cX12_isOutOfPace 7 = .ok (.imul, 1) := by decide +kernel
theorem dX12_isOutOfPace_8 : decode cX12_isOutOfPace 8 = .ok (.iload_n 3, 1) := by decide +kernel
theorem dX12_isOutOfPace_9 : decode cX12_isOutOfPace 9 = .ok (.iadd, 1) := by decide +kernel
theorem dX12_isOutOfPace_10 : decode cX12_isOutOfPace 10 = .ok (.iload 4, 2) := by decide +kernel
theorem dX12_isOutOfPace_12 : decode cX12_isOutOfPace 12 = .ok (.iadd, 1) := by decide +kernel
theorem dX12_isOutOfPace_13 : decode cX12_isOutOfPace 13 = .ok (.iaload, 1) := by decide +kernel
theorem dX12_isOutOfPace_14 : decode cX12_isOutOfPace 14 = .ok (.aload_n 0, 1) := by decide +kernel
theorem dX12_isOutOfPace_15 : decode cX12_isOutOfPace 15 = .ok (.getfield 39, 3) := by decide +kernel
theorem dX12_isOutOfPace_18 : decode cX12_isOutOfPace 18 = .ok (.bipush 40, 2) := by decide +kernel
theorem dX12_isOutOfPace_20 : decode cX12_isOutOfPace 20 = .ok (.iload_n 1, 1) := by decide +kernel
theorem dX12_isOutOfPace_21 : decode cX12_isOutOfPace 21 = .ok (.imul, 1) := by decide +kernel
theorem dX12_isOutOfPace_22 : decode cX12_isOutOfPace 22 = .ok (.iaload, 1) := by decide +kernel
theorem dX12_isOutOfPace_23 : decode cX12_isOutOfPace 23 = .ok (.imul, 1) := by decide +kernel
theorem dX12_isOutOfPace_24 : decode cX12_isOutOfPace 24 = .ok (.aload_n 0, 1) := by decide +kernel
theorem dX12_isOutOfPace_25 : decode cX12_isOutOfPace 25 = .ok (.getfield 39, 3) := by decide +kernel
theorem dX12_isOutOfPace_28 : decode cX12_isOutOfPace 28 = .ok (.bipush 40, 2) := by decide +kernel
theorem dX12_isOutOfPace_30 : decode cX12_isOutOfPace 30 = .ok (.iload_n 2, 1) := by decide +kernel
theorem dX12_isOutOfPace_31 : decode cX12_isOutOfPace 31 = .ok (.imul, 1) := by decide +kernel
theorem dX12_isOutOfPace_32 : decode cX12_isOutOfPace 32 = .ok (.iload_n 3, 1) := by decide +kernel
theorem dX12_isOutOfPace_33 : decode cX12_isOutOfPace 33 = .ok (.iadd, 1) := by decide +kernel
theorem dX12_isOutOfPace_34 : decode cX12_isOutOfPace 34 = .ok (.iaload, 1) := by decide +kernel
theorem dX12_isOutOfPace_35 : decode cX12_isOutOfPace 35 = .ok (.aload_n 0, 1) := by decide +kernel
theorem dX12_isOutOfPace_36 : decode cX12_isOutOfPace 36 = .ok (.getfield 39, 3) := by decide +kernel
theorem dX12_isOutOfPace_39 : decode cX12_isOutOfPace 39 = .ok (.bipush 40, 2) := by decide +kernel
theorem dX12_isOutOfPace_41 : decode cX12_isOutOfPace 41 = .ok (.iload_n 1, 1) := by decide +kernel
theorem dX12_isOutOfPace_42 : decode cX12_isOutOfPace 42 = .ok (.imul, 1) := by decide +kernel
theorem dX12_isOutOfPace_43 : decode cX12_isOutOfPace 43 = .ok (.iload 4, 2) := by decide +kernel
theorem dX12_isOutOfPace_45 : decode cX12_isOutOfPace 45 = .ok (.iadd, 1) := by decide +kernel
theorem dX12_isOutOfPace_46 : decode cX12_isOutOfPace 46 = .ok (.iaload, 1) := by decide +kernel
theorem dX12_isOutOfPace_47 : decode cX12_isOutOfPace 47 = .ok (.imul, 1) := by decide +kernel
theorem dX12_isOutOfPace_48 : decode cX12_isOutOfPace 48 = .ok (.if_icmp .eq 7, 3) := by decide +kernel
theorem dX12_isOutOfPace_55 : decode cX12_isOutOfPace 55 = .ok (.iconst 0, 1) := by decide +kernel
theorem dX12_isOutOfPace_56 : decode cX12_isOutOfPace 56 = .ok (.ireturn, 1) := by decide +kernel
theorem dX12_isOutOfPace_51 : decode cX12_isOutOfPace 51 = .ok (.iconst 1, 1) := by decide +kernel
theorem dX12_isOutOfPace_52 : decode cX12_isOutOfPace 52 = .ok (.goto 4, 3) := by decide +kernel
set_option maxHeartbeats 4000000 in
set_option maxRecDepth 100000 in
theorem m_isIn (l : Launch) (G : va_G) (cy : Nat → ClassId) (sz : Nat)  (n : Int32) (lo : Int32) (hi : Int32)    : Met l yX12_isIn (.code yX12_isIn cX12_isIn 3 (some .boolean) :: TBg) ({ frames := 1, cells := 0, slots := 0, locals := 64 }) (va_Pc [.int n, .int lo, .int hi] (En G cy [] sz)) (va_Qi (fun (r : Int32) (_ : Unit) => ((r.toInt = 1 ∧ lo.toInt ≤ n.toInt ∧ n.toInt ≤ hi.toInt) ∨ (r.toInt = 0 ∧ (n.toInt < lo.toInt ∨ hi.toInt < n.toInt)))) (fun _ _ => True) (va_A [] sz)) 0 0 (va_A [] sz) := by
  refine Met.ofW (cc := cX12_isIn) (maxL := 3) (ret := (some .boolean)) (by decide) rfl ?_
  intro p e s m args below meth c s₁ B hml hv9
  obtain ⟨rfl, hsz, hP, hK, hD0, hN⟩ := hv9
  have hx := B.exec
  have hb := B.bytes
  have hr := B.returns
  have hts := atoms_spec (ws := .code yX12_isIn cX12_isIn 3 (some .boolean) :: TBg) B.pre
  have ht : ∀ w ∈ TBg, w.before _ s = true := fun w h => hts w (List.mem_cons_of_mem _ h)
  have hown : s.vm.findClass RX12 = some m.cls := findClass_of_methodNamed B.named
  have hlocks := B.notSynchronized
  subst hsz
  generalize hAe : va_A [] s.heap.size = A at ⊢
  have hA : ∀ q : Nat, s.heap.size ≤ q → A q := fun q h => by rw [← hAe]; exact Or.inr h
  have hS : va_S A s.heap s.heap [] := va_S.rf
  have hl := lv_entry ([.int n, .int lo, .int hi]) (n := 3) (Nat.le_of_ble_eq_true rfl)
  rw [lg_entry_eq]
  generalize (lg_sl ([.int n, .int lo, .int hi]) ++ List.replicate (3 - (lg_sl ([.int n, .int lo, .int hi])).length) Slot.unset).toArray = ls at hl ⊢
  have hl : lv_has ls 3 [(0, .int n), (1, .int lo), (2, .int hi)] := hl
  have z0 : (0 : Int32).toInt = 0 := by decide
  have z1 : (1 : Int32).toInt = 1 := by decide
  refine lv_iload_n hx hb dX12_isIn_0 rfl (lv_at hl 0 rfl) ?_
  refine lv_iload_n hx hb dX12_isIn_1 rfl (lv_at hl 1 rfl) ?_
  refine lv_icmp_lt (tgt := 14) hx hb dX12_isIn_2 (by decide) (fun c_1 => ?_) (fun c_1 => ?_)
  · have q_2 : n.toInt < lo.toInt := (ow_lt _ _).mp c_1
    refine lv_iconst (v := 0) hx hb dX12_isIn_14 (by decide) ?_
    refine W.widen (k := 0) (n := 0) (Nat.le_of_ble_eq_true rfl) (Nat.le_of_ble_eq_true rfl) ?_
    exact W.zret (v := 0) hx hb hr rfl (fun t ht9 hW => ⟨⟨0, (), rfl, (by omega), trivial⟩, hS.F ht9⟩) hS.2.2 dX12_isIn_15
  · have q_3 : lo.toInt ≤ n.toInt := by have := (not_congr (ow_lt _ _)).mp c_1; omega
    refine lv_iload_n hx hb dX12_isIn_5 rfl (lv_at hl 0 rfl) ?_
    refine lv_iload_n hx hb dX12_isIn_6 rfl (lv_at hl 2 rfl) ?_
    refine lv_icmp_gt (tgt := 14) hx hb dX12_isIn_7 (by decide) (fun c_4 => ?_) (fun c_4 => ?_)
    · have q_5 : hi.toInt < n.toInt := (ow_lt _ _).mp c_4
      refine lv_iconst (v := 0) hx hb dX12_isIn_14 (by decide) ?_
      refine W.widen (k := 0) (n := 0) (Nat.le_of_ble_eq_true rfl) (Nat.le_of_ble_eq_true rfl) ?_
      exact W.zret (v := 0) hx hb hr rfl (fun t ht9 hW => ⟨⟨0, (), rfl, (by omega), trivial⟩, hS.F ht9⟩) hS.2.2 dX12_isIn_15
    · have q_6 : n.toInt ≤ hi.toInt := by have := (not_congr (ow_lt _ _)).mp c_4; omega
      refine lv_iconst (v := 1) hx hb dX12_isIn_10 (by decide) ?_
      refine lv_goto (tgt := 15) hx hb dX12_isIn_11 (by decide) ?_
      refine W.widen (k := 0) (n := 0) (Nat.le_of_ble_eq_true rfl) (Nat.le_of_ble_eq_true rfl) ?_
      exact W.zret (v := 1) hx hb hr rfl (fun t ht9 hW => ⟨⟨1, (), rfl, (by omega), trivial⟩, hS.F ht9⟩) hS.2.2 dX12_isIn_15
set_option maxHeartbeats 4000000 in
set_option maxRecDepth 100000 in
theorem m_away (l : Launch) (G : va_G) (cy : Nat → ClassId) (sz : Nat)  (n : Int32)    : Met l yX12_away (.code yX12_away cX12_away 1 (some .int) :: TBg) ({ frames := 1, cells := 0, slots := 0, locals := 64 }) (va_Pc [.int n] (En G cy [] sz)) (va_Qi (fun (r : Int32) (_ : Unit) => True) (fun _ _ => True) (va_A [] sz)) 0 0 (va_A [] sz) := by
  refine Met.ofW (cc := cX12_away) (maxL := 1) (ret := (some .int)) (by decide) rfl ?_
  intro p e s m args below meth c s₁ B hml hv9
  obtain ⟨rfl, hsz, hP, hK, hD0, hN⟩ := hv9
  have hx := B.exec
  have hb := B.bytes
  have hr := B.returns
  have hts := atoms_spec (ws := .code yX12_away cX12_away 1 (some .int) :: TBg) B.pre
  have ht : ∀ w ∈ TBg, w.before _ s = true := fun w h => hts w (List.mem_cons_of_mem _ h)
  have hown : s.vm.findClass RX12 = some m.cls := findClass_of_methodNamed B.named
  have hlocks := B.notSynchronized
  subst hsz
  generalize hAe : va_A [] s.heap.size = A at ⊢
  have hA : ∀ q : Nat, s.heap.size ≤ q → A q := fun q h => by rw [← hAe]; exact Or.inr h
  have hS : va_S A s.heap s.heap [] := va_S.rf
  have hl := lv_entry ([.int n]) (n := 1) (Nat.le_of_ble_eq_true rfl)
  rw [lg_entry_eq]
  generalize (lg_sl ([.int n]) ++ List.replicate (1 - (lg_sl ([.int n])).length) Slot.unset).toArray = ls at hl ⊢
  have hl : lv_has ls 1 [(0, .int n)] := hl
  have z0 : (0 : Int32).toInt = 0 := by decide
  refine lv_iload_n hx hb dX12_away_0 rfl (lv_at hl 0 rfl) ?_
  refine lv_if_ge (tgt := 9) hx hb dX12_away_1 (by decide) (fun c_1 => ?_) (fun c_1 => ?_)
  · have q_2 : (0 : Int32).toInt ≤ n.toInt := (ow_le _ _).mp c_1
    refine lv_iload_n hx hb dX12_away_9 rfl (lv_at hl 0 rfl) ?_
    refine W.widen (k := 0) (n := 0) (Nat.le_of_ble_eq_true rfl) (Nat.le_of_ble_eq_true rfl) ?_
    exact W.iret (v := n) hx hb hr (fun t ht9 hW => ⟨⟨n, (), rfl, trivial, trivial⟩, hS.F ht9⟩) hS.2.2 dX12_away_10
  · have q_3 : n.toInt < (0 : Int32).toInt := by have := (not_congr (ow_le _ _)).mp c_1; omega
    refine lv_iload_n hx hb dX12_away_4 rfl (lv_at hl 0 rfl) ?_
    refine lv_ineg hx hb dX12_away_5 ?_
    refine lv_topi (fun v_4 ev_4 => ?_)
    refine lv_goto (tgt := 10) hx hb dX12_away_6 (by decide) ?_
    refine W.widen (k := 0) (n := 0) (Nat.le_of_ble_eq_true rfl) (Nat.le_of_ble_eq_true rfl) ?_
    exact W.iret (v := v_4) hx hb hr (fun t ht9 hW => ⟨⟨v_4, (), rfl, trivial, trivial⟩, hS.F ht9⟩) hS.2.2 dX12_away_10
set_option maxHeartbeats 4000000 in
set_option maxRecDepth 100000 in
theorem m_lower (l : Launch) (G : va_G) (cy : Nat → ClassId) (sz : Nat)  (n : Int32) (n2 : Int32)    : Met l yX12_lower (.code yX12_lower cX12_lower 2 (some .int) :: TBg) ({ frames := 1, cells := 0, slots := 0, locals := 64 }) (va_Pc [.int n, .int n2] (En G cy [] sz)) (va_Qi (fun (r : Int32) (_ : Unit) => True) (fun _ _ => True) (va_A [] sz)) 0 0 (va_A [] sz) := by
  refine Met.ofW (cc := cX12_lower) (maxL := 2) (ret := (some .int)) (by decide) rfl ?_
  intro p e s m args below meth c s₁ B hml hv9
  obtain ⟨rfl, hsz, hP, hK, hD0, hN⟩ := hv9
  have hx := B.exec
  have hb := B.bytes
  have hr := B.returns
  have hts := atoms_spec (ws := .code yX12_lower cX12_lower 2 (some .int) :: TBg) B.pre
  have ht : ∀ w ∈ TBg, w.before _ s = true := fun w h => hts w (List.mem_cons_of_mem _ h)
  have hown : s.vm.findClass RX12 = some m.cls := findClass_of_methodNamed B.named
  have hlocks := B.notSynchronized
  subst hsz
  generalize hAe : va_A [] s.heap.size = A at ⊢
  have hA : ∀ q : Nat, s.heap.size ≤ q → A q := fun q h => by rw [← hAe]; exact Or.inr h
  have hS : va_S A s.heap s.heap [] := va_S.rf
  have hl := lv_entry ([.int n, .int n2]) (n := 2) (Nat.le_of_ble_eq_true rfl)
  rw [lg_entry_eq]
  generalize (lg_sl ([.int n, .int n2]) ++ List.replicate (2 - (lg_sl ([.int n, .int n2])).length) Slot.unset).toArray = ls at hl ⊢
  have hl : lv_has ls 2 [(0, .int n), (1, .int n2)] := hl
  refine lv_iload_n hx hb dX12_lower_0 rfl (lv_at hl 0 rfl) ?_
  refine lv_iload_n hx hb dX12_lower_1 rfl (lv_at hl 1 rfl) ?_
  refine lv_icmp_ge (tgt := 9) hx hb dX12_lower_2 (by decide) (fun c_1 => ?_) (fun c_1 => ?_)
  · have q_2 : n2.toInt ≤ n.toInt := (ow_le _ _).mp c_1
    refine lv_iload_n hx hb dX12_lower_9 rfl (lv_at hl 1 rfl) ?_
    refine W.widen (k := 0) (n := 0) (Nat.le_of_ble_eq_true rfl) (Nat.le_of_ble_eq_true rfl) ?_
    exact W.iret (v := n2) hx hb hr (fun t ht9 hW => ⟨⟨n2, (), rfl, trivial, trivial⟩, hS.F ht9⟩) hS.2.2 dX12_lower_10
  · have q_3 : n.toInt < n2.toInt := by have := (not_congr (ow_le _ _)).mp c_1; omega
    refine lv_iload_n hx hb dX12_lower_5 rfl (lv_at hl 0 rfl) ?_
    refine lv_goto (tgt := 10) hx hb dX12_lower_6 (by decide) ?_
    refine W.widen (k := 0) (n := 0) (Nat.le_of_ble_eq_true rfl) (Nat.le_of_ble_eq_true rfl) ?_
    exact W.iret (v := n) hx hb hr (fun t ht9 hW => ⟨⟨n, (), rfl, trivial, trivial⟩, hS.F ht9⟩) hS.2.2 dX12_lower_10
set_option maxHeartbeats 4000000 in
set_option maxRecDepth 100000 in
theorem m_isLetter (l : Launch) (G : va_G) (cy : Nat → ClassId) (sz : Nat)  (n : Int32)    : Met l yX12_isLetter (.code yX12_isLetter cX12_isLetter 1 (some .boolean) :: TBg) ({ frames := 1, cells := 0, slots := 0, locals := 64 }) (va_Pc [.int n] (En G cy [] sz)) (va_Qi (fun (r : Int32) (_ : Unit) => ((r.toInt = 1 ∧ 97 ≤ n.toInt ∧ n.toInt ≤ 122) ∨ (r.toInt = 0 ∧ (n.toInt < 97 ∨ 122 < n.toInt)))) (fun _ _ => True) (va_A [] sz)) 0 0 (va_A [] sz) := by
  refine Met.ofW (cc := cX12_isLetter) (maxL := 1) (ret := (some .boolean)) (by decide) rfl ?_
  intro p e s m args below meth c s₁ B hml hv9
  obtain ⟨rfl, hsz, hP, hK, hD0, hN⟩ := hv9
  have hx := B.exec
  have hb := B.bytes
  have hr := B.returns
  have hts := atoms_spec (ws := .code yX12_isLetter cX12_isLetter 1 (some .boolean) :: TBg) B.pre
  have ht : ∀ w ∈ TBg, w.before _ s = true := fun w h => hts w (List.mem_cons_of_mem _ h)
  have hown : s.vm.findClass RX12 = some m.cls := findClass_of_methodNamed B.named
  have hlocks := B.notSynchronized
  subst hsz
  generalize hAe : va_A [] s.heap.size = A at ⊢
  have hA : ∀ q : Nat, s.heap.size ≤ q → A q := fun q h => by rw [← hAe]; exact Or.inr h
  have hS : va_S A s.heap s.heap [] := va_S.rf
  have hl := lv_entry ([.int n]) (n := 1) (Nat.le_of_ble_eq_true rfl)
  rw [lg_entry_eq]
  generalize (lg_sl ([.int n]) ++ List.replicate (1 - (lg_sl ([.int n])).length) Slot.unset).toArray = ls at hl ⊢
  have hl : lv_has ls 1 [(0, .int n)] := hl
  have z0 : (0 : Int32).toInt = 0 := by decide
  have z1 : (1 : Int32).toInt = 1 := by decide
  have z2 : (97 : Int32).toInt = 97 := by decide
  have z3 : (122 : Int32).toInt = 122 := by decide
  refine lv_iload_n hx hb dX12_isLetter_0 rfl (lv_at hl 0 rfl) ?_
  refine lv_bipush (v := 97) hx hb dX12_isLetter_1 (by decide) ?_
  refine lv_icmp_lt (tgt := 16) hx hb dX12_isLetter_3 (by decide) (fun c_1 => ?_) (fun c_1 => ?_)
  · have q_2 : n.toInt < (97 : Int32).toInt := (ow_lt _ _).mp c_1
    refine lv_iconst (v := 0) hx hb dX12_isLetter_16 (by decide) ?_
    refine W.widen (k := 0) (n := 0) (Nat.le_of_ble_eq_true rfl) (Nat.le_of_ble_eq_true rfl) ?_
    exact W.zret (v := 0) hx hb hr rfl (fun t ht9 hW => ⟨⟨0, (), rfl, (by omega), trivial⟩, hS.F ht9⟩) hS.2.2 dX12_isLetter_17
  · have q_3 : (97 : Int32).toInt ≤ n.toInt := by have := (not_congr (ow_lt _ _)).mp c_1; omega
    refine lv_iload_n hx hb dX12_isLetter_6 rfl (lv_at hl 0 rfl) ?_
    refine lv_bipush (v := 122) hx hb dX12_isLetter_7 (by decide) ?_
    refine lv_icmp_gt (tgt := 16) hx hb dX12_isLetter_9 (by decide) (fun c_4 => ?_) (fun c_4 => ?_)
    · have q_5 : (122 : Int32).toInt < n.toInt := (ow_lt _ _).mp c_4
      refine lv_iconst (v := 0) hx hb dX12_isLetter_16 (by decide) ?_
      refine W.widen (k := 0) (n := 0) (Nat.le_of_ble_eq_true rfl) (Nat.le_of_ble_eq_true rfl) ?_
      exact W.zret (v := 0) hx hb hr rfl (fun t ht9 hW => ⟨⟨0, (), rfl, (by omega), trivial⟩, hS.F ht9⟩) hS.2.2 dX12_isLetter_17
    · have q_6 : n.toInt ≤ (122 : Int32).toInt := by have := (not_congr (ow_lt _ _)).mp c_4; omega
      refine lv_iconst (v := 1) hx hb dX12_isLetter_12 (by decide) ?_
      refine lv_goto (tgt := 17) hx hb dX12_isLetter_13 (by decide) ?_
      refine W.widen (k := 0) (n := 0) (Nat.le_of_ble_eq_true rfl) (Nat.le_of_ble_eq_true rfl) ?_
      exact W.zret (v := 1) hx hb hr rfl (fun t ht9 hW => ⟨⟨1, (), rfl, (by omega), trivial⟩, hS.F ht9⟩) hS.2.2 dX12_isLetter_17
set_option maxHeartbeats 4000000 in
set_option maxRecDepth 100000 in
theorem m_isDigit (l : Launch) (G : va_G) (cy : Nat → ClassId) (sz : Nat)  (n : Int32)    : Met l yX12_isDigit (.code yX12_isDigit cX12_isDigit 1 (some .boolean) :: TBg) ({ frames := 1, cells := 0, slots := 0, locals := 64 }) (va_Pc [.int n] (En G cy [] sz)) (va_Qi (fun (r : Int32) (_ : Unit) => ((r.toInt = 1 ∧ 48 ≤ n.toInt ∧ n.toInt ≤ 57) ∨ (r.toInt = 0 ∧ (n.toInt < 48 ∨ 57 < n.toInt)))) (fun _ _ => True) (va_A [] sz)) 0 0 (va_A [] sz) := by
  refine Met.ofW (cc := cX12_isDigit) (maxL := 1) (ret := (some .boolean)) (by decide) rfl ?_
  intro p e s m args below meth c s₁ B hml hv9
  obtain ⟨rfl, hsz, hP, hK, hD0, hN⟩ := hv9
  have hx := B.exec
  have hb := B.bytes
  have hr := B.returns
  have hts := atoms_spec (ws := .code yX12_isDigit cX12_isDigit 1 (some .boolean) :: TBg) B.pre
  have ht : ∀ w ∈ TBg, w.before _ s = true := fun w h => hts w (List.mem_cons_of_mem _ h)
  have hown : s.vm.findClass RX12 = some m.cls := findClass_of_methodNamed B.named
  have hlocks := B.notSynchronized
  subst hsz
  generalize hAe : va_A [] s.heap.size = A at ⊢
  have hA : ∀ q : Nat, s.heap.size ≤ q → A q := fun q h => by rw [← hAe]; exact Or.inr h
  have hS : va_S A s.heap s.heap [] := va_S.rf
  have hl := lv_entry ([.int n]) (n := 1) (Nat.le_of_ble_eq_true rfl)
  rw [lg_entry_eq]
  generalize (lg_sl ([.int n]) ++ List.replicate (1 - (lg_sl ([.int n])).length) Slot.unset).toArray = ls at hl ⊢
  have hl : lv_has ls 1 [(0, .int n)] := hl
  have z0 : (0 : Int32).toInt = 0 := by decide
  have z1 : (1 : Int32).toInt = 1 := by decide
  have z2 : (48 : Int32).toInt = 48 := by decide
  have z3 : (57 : Int32).toInt = 57 := by decide
  refine lv_iload_n hx hb dX12_isDigit_0 rfl (lv_at hl 0 rfl) ?_
  refine lv_bipush (v := 48) hx hb dX12_isDigit_1 (by decide) ?_
  refine lv_icmp_lt (tgt := 16) hx hb dX12_isDigit_3 (by decide) (fun c_1 => ?_) (fun c_1 => ?_)
  · have q_2 : n.toInt < (48 : Int32).toInt := (ow_lt _ _).mp c_1
    refine lv_iconst (v := 0) hx hb dX12_isDigit_16 (by decide) ?_
    refine W.widen (k := 0) (n := 0) (Nat.le_of_ble_eq_true rfl) (Nat.le_of_ble_eq_true rfl) ?_
    exact W.zret (v := 0) hx hb hr rfl (fun t ht9 hW => ⟨⟨0, (), rfl, (by omega), trivial⟩, hS.F ht9⟩) hS.2.2 dX12_isDigit_17
  · have q_3 : (48 : Int32).toInt ≤ n.toInt := by have := (not_congr (ow_lt _ _)).mp c_1; omega
    refine lv_iload_n hx hb dX12_isDigit_6 rfl (lv_at hl 0 rfl) ?_
    refine lv_bipush (v := 57) hx hb dX12_isDigit_7 (by decide) ?_
    refine lv_icmp_gt (tgt := 16) hx hb dX12_isDigit_9 (by decide) (fun c_4 => ?_) (fun c_4 => ?_)
    · have q_5 : (57 : Int32).toInt < n.toInt := (ow_lt _ _).mp c_4
      refine lv_iconst (v := 0) hx hb dX12_isDigit_16 (by decide) ?_
      refine W.widen (k := 0) (n := 0) (Nat.le_of_ble_eq_true rfl) (Nat.le_of_ble_eq_true rfl) ?_
      exact W.zret (v := 0) hx hb hr rfl (fun t ht9 hW => ⟨⟨0, (), rfl, (by omega), trivial⟩, hS.F ht9⟩) hS.2.2 dX12_isDigit_17
    · have q_6 : n.toInt ≤ (57 : Int32).toInt := by have := (not_congr (ow_lt _ _)).mp c_4; omega
      refine lv_iconst (v := 1) hx hb dX12_isDigit_12 (by decide) ?_
      refine lv_goto (tgt := 17) hx hb dX12_isDigit_13 (by decide) ?_
      refine W.widen (k := 0) (n := 0) (Nat.le_of_ble_eq_true rfl) (Nat.le_of_ble_eq_true rfl) ?_
      exact W.zret (v := 1) hx hb hr rfl (fun t ht9 hW => ⟨⟨1, (), rfl, (by omega), trivial⟩, hS.F ht9⟩) hS.2.2 dX12_isDigit_17
set_option maxHeartbeats 4000000 in
set_option maxRecDepth 100000 in
theorem m_isSign (l : Launch) (G : va_G) (cy : Nat → ClassId) (sz : Nat)  (n : Int32)    : Met l yX12_isSign (.code yX12_isSign cX12_isSign 1 (some .boolean) :: TBg) ({ frames := 1, cells := 0, slots := 0, locals := 64 }) (va_Pc [.int n] (En G cy [] sz)) (va_Qi (fun (r : Int32) (_ : Unit) => (r.toInt = 0 ∨ r.toInt = 1)) (fun _ _ => True) (va_A [] sz)) 0 0 (va_A [] sz) := by
  refine Met.ofW (cc := cX12_isSign) (maxL := 1) (ret := (some .boolean)) (by decide) rfl ?_
  intro p e s m args below meth c s₁ B hml hv9
  obtain ⟨rfl, hsz, hP, hK, hD0, hN⟩ := hv9
  have hx := B.exec
  have hb := B.bytes
  have hr := B.returns
  have hts := atoms_spec (ws := .code yX12_isSign cX12_isSign 1 (some .boolean) :: TBg) B.pre
  have ht : ∀ w ∈ TBg, w.before _ s = true := fun w h => hts w (List.mem_cons_of_mem _ h)
  have hown : s.vm.findClass RX12 = some m.cls := findClass_of_methodNamed B.named
  have hlocks := B.notSynchronized
  subst hsz
  generalize hAe : va_A [] s.heap.size = A at ⊢
  have hA : ∀ q : Nat, s.heap.size ≤ q → A q := fun q h => by rw [← hAe]; exact Or.inr h
  have hS : va_S A s.heap s.heap [] := va_S.rf
  have hl := lv_entry ([.int n]) (n := 1) (Nat.le_of_ble_eq_true rfl)
  rw [lg_entry_eq]
  generalize (lg_sl ([.int n]) ++ List.replicate (1 - (lg_sl ([.int n])).length) Slot.unset).toArray = ls at hl ⊢
  have hl : lv_has ls 1 [(0, .int n)] := hl
  have z0 : (0 : Int32).toInt = 0 := by decide
  have z1 : (1 : Int32).toInt = 1 := by decide
  have z2 : (40 : Int32).toInt = 40 := by decide
  have z3 : (41 : Int32).toInt = 41 := by decide
  have z4 : (43 : Int32).toInt = 43 := by decide
  have z5 : (45 : Int32).toInt = 45 := by decide
  have z6 : (59 : Int32).toInt = 59 := by decide
  have z7 : (60 : Int32).toInt = 60 := by decide
  have z8 : (61 : Int32).toInt = 61 := by decide
  have z9 : (62 : Int32).toInt = 62 := by decide
  refine lv_iload_n hx hb dX12_isSign_0 rfl (lv_at hl 0 rfl) ?_
  refine lv_bipush (v := 59) hx hb dX12_isSign_1 (by decide) ?_
  refine lv_icmp_eq (tgt := 48) hx hb dX12_isSign_3 (by decide) (fun c_1 => ?_) (fun c_1 => ?_)
  · have q_2 : n.toInt = (59 : Int32).toInt := (ow_eq _ _).mp c_1
    refine lv_iconst (v := 1) hx hb dX12_isSign_48 (by decide) ?_
    refine lv_goto (tgt := 53) hx hb dX12_isSign_49 (by decide) ?_
    refine W.widen (k := 0) (n := 0) (Nat.le_of_ble_eq_true rfl) (Nat.le_of_ble_eq_true rfl) ?_
    exact W.zret (v := 1) hx hb hr rfl (fun t ht9 hW => ⟨⟨1, (), rfl, (by omega), trivial⟩, hS.F ht9⟩) hS.2.2 dX12_isSign_53
  · have q_3 : ¬ n.toInt = (59 : Int32).toInt := by have := (not_congr (ow_eq _ _)).mp c_1; omega
    refine lv_iload_n hx hb dX12_isSign_6 rfl (lv_at hl 0 rfl) ?_
    refine lv_bipush (v := 40) hx hb dX12_isSign_7 (by decide) ?_
    refine lv_icmp_eq (tgt := 48) hx hb dX12_isSign_9 (by decide) (fun c_4 => ?_) (fun c_4 => ?_)
    · have q_5 : n.toInt = (40 : Int32).toInt := (ow_eq _ _).mp c_4
      refine lv_iconst (v := 1) hx hb dX12_isSign_48 (by decide) ?_
      refine lv_goto (tgt := 53) hx hb dX12_isSign_49 (by decide) ?_
      refine W.widen (k := 0) (n := 0) (Nat.le_of_ble_eq_true rfl) (Nat.le_of_ble_eq_true rfl) ?_
      exact W.zret (v := 1) hx hb hr rfl (fun t ht9 hW => ⟨⟨1, (), rfl, (by omega), trivial⟩, hS.F ht9⟩) hS.2.2 dX12_isSign_53
    · have q_6 : ¬ n.toInt = (40 : Int32).toInt := by have := (not_congr (ow_eq _ _)).mp c_4; omega
      refine lv_iload_n hx hb dX12_isSign_12 rfl (lv_at hl 0 rfl) ?_
      refine lv_bipush (v := 41) hx hb dX12_isSign_13 (by decide) ?_
      refine lv_icmp_eq (tgt := 48) hx hb dX12_isSign_15 (by decide) (fun c_7 => ?_) (fun c_7 => ?_)
      · have q_8 : n.toInt = (41 : Int32).toInt := (ow_eq _ _).mp c_7
        refine lv_iconst (v := 1) hx hb dX12_isSign_48 (by decide) ?_
        refine lv_goto (tgt := 53) hx hb dX12_isSign_49 (by decide) ?_
        refine W.widen (k := 0) (n := 0) (Nat.le_of_ble_eq_true rfl) (Nat.le_of_ble_eq_true rfl) ?_
        exact W.zret (v := 1) hx hb hr rfl (fun t ht9 hW => ⟨⟨1, (), rfl, (by omega), trivial⟩, hS.F ht9⟩) hS.2.2 dX12_isSign_53
      · have q_9 : ¬ n.toInt = (41 : Int32).toInt := by have := (not_congr (ow_eq _ _)).mp c_7; omega
        refine lv_iload_n hx hb dX12_isSign_18 rfl (lv_at hl 0 rfl) ?_
        refine lv_bipush (v := 60) hx hb dX12_isSign_19 (by decide) ?_
        refine lv_icmp_eq (tgt := 48) hx hb dX12_isSign_21 (by decide) (fun c_10 => ?_) (fun c_10 => ?_)
        · have q_11 : n.toInt = (60 : Int32).toInt := (ow_eq _ _).mp c_10
          refine lv_iconst (v := 1) hx hb dX12_isSign_48 (by decide) ?_
          refine lv_goto (tgt := 53) hx hb dX12_isSign_49 (by decide) ?_
          refine W.widen (k := 0) (n := 0) (Nat.le_of_ble_eq_true rfl) (Nat.le_of_ble_eq_true rfl) ?_
          exact W.zret (v := 1) hx hb hr rfl (fun t ht9 hW => ⟨⟨1, (), rfl, (by omega), trivial⟩, hS.F ht9⟩) hS.2.2 dX12_isSign_53
        · have q_12 : ¬ n.toInt = (60 : Int32).toInt := by have := (not_congr (ow_eq _ _)).mp c_10; omega
          refine lv_iload_n hx hb dX12_isSign_24 rfl (lv_at hl 0 rfl) ?_
          refine lv_bipush (v := 62) hx hb dX12_isSign_25 (by decide) ?_
          refine lv_icmp_eq (tgt := 48) hx hb dX12_isSign_27 (by decide) (fun c_13 => ?_) (fun c_13 => ?_)
          · have q_14 : n.toInt = (62 : Int32).toInt := (ow_eq _ _).mp c_13
            refine lv_iconst (v := 1) hx hb dX12_isSign_48 (by decide) ?_
            refine lv_goto (tgt := 53) hx hb dX12_isSign_49 (by decide) ?_
            refine W.widen (k := 0) (n := 0) (Nat.le_of_ble_eq_true rfl) (Nat.le_of_ble_eq_true rfl) ?_
            exact W.zret (v := 1) hx hb hr rfl (fun t ht9 hW => ⟨⟨1, (), rfl, (by omega), trivial⟩, hS.F ht9⟩) hS.2.2 dX12_isSign_53
          · have q_15 : ¬ n.toInt = (62 : Int32).toInt := by have := (not_congr (ow_eq _ _)).mp c_13; omega
            refine lv_iload_n hx hb dX12_isSign_30 rfl (lv_at hl 0 rfl) ?_
            refine lv_bipush (v := 61) hx hb dX12_isSign_31 (by decide) ?_
            refine lv_icmp_eq (tgt := 48) hx hb dX12_isSign_33 (by decide) (fun c_16 => ?_) (fun c_16 => ?_)
            · have q_17 : n.toInt = (61 : Int32).toInt := (ow_eq _ _).mp c_16
              refine lv_iconst (v := 1) hx hb dX12_isSign_48 (by decide) ?_
              refine lv_goto (tgt := 53) hx hb dX12_isSign_49 (by decide) ?_
              refine W.widen (k := 0) (n := 0) (Nat.le_of_ble_eq_true rfl) (Nat.le_of_ble_eq_true rfl) ?_
              exact W.zret (v := 1) hx hb hr rfl (fun t ht9 hW => ⟨⟨1, (), rfl, (by omega), trivial⟩, hS.F ht9⟩) hS.2.2 dX12_isSign_53
            · have q_18 : ¬ n.toInt = (61 : Int32).toInt := by have := (not_congr (ow_eq _ _)).mp c_16; omega
              refine lv_iload_n hx hb dX12_isSign_36 rfl (lv_at hl 0 rfl) ?_
              refine lv_bipush (v := 43) hx hb dX12_isSign_37 (by decide) ?_
              refine lv_icmp_eq (tgt := 48) hx hb dX12_isSign_39 (by decide) (fun c_19 => ?_) (fun c_19 => ?_)
              · have q_20 : n.toInt = (43 : Int32).toInt := (ow_eq _ _).mp c_19
                refine lv_iconst (v := 1) hx hb dX12_isSign_48 (by decide) ?_
                refine lv_goto (tgt := 53) hx hb dX12_isSign_49 (by decide) ?_
                refine W.widen (k := 0) (n := 0) (Nat.le_of_ble_eq_true rfl) (Nat.le_of_ble_eq_true rfl) ?_
                exact W.zret (v := 1) hx hb hr rfl (fun t ht9 hW => ⟨⟨1, (), rfl, (by omega), trivial⟩, hS.F ht9⟩) hS.2.2 dX12_isSign_53
              · have q_21 : ¬ n.toInt = (43 : Int32).toInt := by have := (not_congr (ow_eq _ _)).mp c_19; omega
                refine lv_iload_n hx hb dX12_isSign_42 rfl (lv_at hl 0 rfl) ?_
                refine lv_bipush (v := 45) hx hb dX12_isSign_43 (by decide) ?_
                refine lv_icmp_ne (tgt := 52) hx hb dX12_isSign_45 (by decide) (fun c_22 => ?_) (fun c_22 => ?_)
                · have q_23 : ¬ n.toInt = (45 : Int32).toInt := by have := (not_congr (ow_eq _ _)).mp c_22; omega
                  refine lv_iconst (v := 0) hx hb dX12_isSign_52 (by decide) ?_
                  refine W.widen (k := 0) (n := 0) (Nat.le_of_ble_eq_true rfl) (Nat.le_of_ble_eq_true rfl) ?_
                  exact W.zret (v := 0) hx hb hr rfl (fun t ht9 hW => ⟨⟨0, (), rfl, (by omega), trivial⟩, hS.F ht9⟩) hS.2.2 dX12_isSign_53
                · have q_24 : n.toInt = (45 : Int32).toInt := (ow_eq _ _).mp c_22
                  refine lv_iconst (v := 1) hx hb dX12_isSign_48 (by decide) ?_
                  refine lv_goto (tgt := 53) hx hb dX12_isSign_49 (by decide) ?_
                  refine W.widen (k := 0) (n := 0) (Nat.le_of_ble_eq_true rfl) (Nat.le_of_ble_eq_true rfl) ?_
                  exact W.zret (v := 1) hx hb hr rfl (fun t ht9 hW => ⟨⟨1, (), rfl, (by omega), trivial⟩, hS.F ht9⟩) hS.2.2 dX12_isSign_53
set_option maxHeartbeats 4000000 in
set_option maxRecDepth 100000 in
theorem m_isTune (l : Launch) (G : va_G) (cy : Nat → ClassId) (sz : Nat) (mo : Nat) (h : Nat → Nat) (T : Int) (v : Nat → Int32) (nm : Int64) (f : Nat → Nat → Int32) (g : Nat → Nat → Int64) (n : Int32)  (hv : MIv T v) (hf : MIf f) (hR : RI v f) (hL : WL v f)  : Met l yX12_isTune (.code yX12_isTune cX12_isTune 2 (some .boolean) :: TBg) ({ frames := 2, cells := 0, slots := 0, locals := 128 }) (va_Pc [.ref mo, .int n] (En G cy (WMs cy mo h v nm f g) sz)) (va_Qi (fun (r : Int32) (_ : Unit) => (r.toInt = 0 ∨ (r.toInt = 1 ∧ 0 ≤ n.toInt ∧ n.toInt ≤ 13))) (fun _ _ => True) (va_A [] sz)) 0 0 (va_A [] sz) := by
  refine Met.ofW (cc := cX12_isTune) (maxL := 2) (ret := (some .boolean)) (by decide) rfl ?_
  intro p e s m args below meth c s₁ B hml hv9
  obtain ⟨rfl, hsz, hP, hK, hD0, hN⟩ := hv9
  have hx := B.exec
  have hb := B.bytes
  have hr := B.returns
  have hts := atoms_spec (ws := .code yX12_isTune cX12_isTune 2 (some .boolean) :: TBg) B.pre
  have ht : ∀ w ∈ TBg, w.before _ s = true := fun w h => hts w (List.mem_cons_of_mem _ h)
  have hown : s.vm.findClass RX12 = some m.cls := findClass_of_methodNamed B.named
  have hlocks := B.notSynchronized
  subst hsz
  generalize hAe : va_A [] s.heap.size = A at ⊢
  have hA : ∀ q : Nat, s.heap.size ≤ q → A q := fun q h => by rw [← hAe]; exact Or.inr h
  have hS : va_S A s.heap s.heap [] := va_S.rf
  have hl := lv_entry ([.ref mo, .int n]) (n := 2) (Nat.le_of_ble_eq_true rfl)
  rw [lg_entry_eq]
  generalize (lg_sl ([.ref mo, .int n]) ++ List.replicate (2 - (lg_sl ([.ref mo, .int n])).length) Slot.unset).toArray = ls at hl ⊢
  have hl : lv_has ls 2 [(0, .ref mo), (1, .int n)] := hl
  have z0 : (0 : Int32).toInt = 0 := by decide
  have z1 : (1 : Int32).toInt = 1 := by decide
  refine lv_iload_n hx hb dX12_isTune_0 rfl (lv_at hl 1 rfl) ?_
  refine lv_iconst (v := 0) hx hb dX12_isTune_1 (by decide) ?_
  refine lv_aload_n hx hb dX12_isTune_2 rfl (lv_at hl 0 rfl) ?_
  refine mg_11 hx hb ht hown hK hP dX12_isTune_3 ?_
  refine lv_aload_n hx hb dX12_isTune_6 rfl (lv_at hl 0 rfl) ?_
  refine mg_29 hx hb ht hown hK hP dX12_isTune_7 ?_
  have q_1 : 0 ≤ (v 29).toInt ∧ (v 29).toInt ≤ 1 := hv 29
  have q_2 : vp_in (v 29) 2 := vp_in_iff.mpr ⟨by omega, by omega⟩
  refine ml_11 hx hb hK hP q_2 dX12_isTune_10 ?_
  refine lv_topi (fun v_3 ev_3 => ?_)
  have q_4 : 0 ≤ v_3.toInt ∧ v_3.toInt ≤ 14 := by rw [ev_3]; exact MIf.rd 11 hf q_2
  have q_5 : v_3.toInt = ((f 11) (Int32.toNatClampNeg (v 29))).toInt := (congrArg Int32.toInt ev_3).trans (congrArg (fun z : Nat → Int32 => (z (Int32.toNatClampNeg (v 29))).toInt) (show f 11 = (f 11) from rfl))
  refine lv_iconst (v := 1) hx hb dX12_isTune_11 (by decide) ?_
  refine lv_isub hx hb dX12_isTune_12 ?_
  refine lv_topi (fun v_6 ev_6 => ?_)
  have q_7 : v_6.toInt = v_3.toInt - (1 : Int32).toInt := ow_sub ev_6 (by omega) (by omega)
  have hFc := fr_new hS hA
  refine va_calli (va_runS (As := [.int n, .int 0, .int v_6]) (rest := []) ⟨hx, hb, hml, hown, ht⟩ (m_isIn l G cy _  n (0) v_6  ) (va_cwS 3 ht (gs k_59 k_60 k_61 k_58) rfl rfl rfl (by decide +kernel) ⟨Nat.le_of_ble_eq_true rfl, Nat.le_of_ble_eq_true rfl⟩) ⟨En.blind, fun U hU hW => ⟨rfl, En.of hU hW (va_P0 (H := _)) hK va_D0 hN⟩⟩ rfl rfl hl.1 rfl (lv_room (Nat.le_of_ble_eq_true rfl)) dX12_isTune_13 ⟨Nat.le_of_ble_eq_true rfl, Nat.le_of_ble_eq_true rfl⟩) hS (fun q _ h => hFc q h) hFc (fun r_u_8 u_8 t9 H locs ht9 hvm hw hB hz1 hk1 hS => ?_)
  have hP := fr_keep hP hk1
  have wu_8 := hw
  clear hFc hk1 hz1 hB hw
  refine W.widen (k := 0) (n := 0) (Nat.le_of_ble_eq_true rfl) (Nat.le_of_ble_eq_true rfl) ?_
  exact W.zret (v := r_u_8) hx hb hr (ow_nb (by omega)) (fun t ht9 hW => ⟨⟨r_u_8, (), rfl, (by omega), trivial⟩, hS.F ht9⟩) hS.2.2 dX12_isTune_16
set_option maxHeartbeats 4000000 in
set_option maxRecDepth 100000 in
theorem m_isLock (l : Launch) (G : va_G) (cy : Nat → ClassId) (sz : Nat) (mo : Nat) (h : Nat → Nat) (T : Int) (v : Nat → Int32) (nm : Int64) (f : Nat → Nat → Int32) (g : Nat → Nat → Int64) (n : Int32)  (hv : MIv T v) (hf : MIf f) (hR : RI v f) (hL : WL v f)  : Met l yX12_isLock (.code yX12_isLock cX12_isLock 2 (some .boolean) :: TBg) ({ frames := 2, cells := 0, slots := 0, locals := 128 }) (va_Pc [.ref mo, .int n] (En G cy (WMs cy mo h v nm f g) sz)) (va_Qi (fun (r : Int32) (_ : Unit) => (r.toInt = 0 ∨ (r.toInt = 1 ∧ 0 ≤ n.toInt ∧ n.toInt ≤ 7)) ∧ (r.toInt = 0 ∨ n.toInt < (f 12 (Int32.toNatClampNeg (v 29))).toInt)) (fun _ _ => True) (va_A [] sz)) 0 0 (va_A [] sz) := by
  refine Met.ofW (cc := cX12_isLock) (maxL := 2) (ret := (some .boolean)) (by decide) rfl ?_
  intro p e s m args below meth c s₁ B hml hv9
  obtain ⟨rfl, hsz, hP, hK, hD0, hN⟩ := hv9
  have hx := B.exec
  have hb := B.bytes
  have hr := B.returns
  have hts := atoms_spec (ws := .code yX12_isLock cX12_isLock 2 (some .boolean) :: TBg) B.pre
  have ht : ∀ w ∈ TBg, w.before _ s = true := fun w h => hts w (List.mem_cons_of_mem _ h)
  have hown : s.vm.findClass RX12 = some m.cls := findClass_of_methodNamed B.named
  have hlocks := B.notSynchronized
  subst hsz
  generalize hAe : va_A [] s.heap.size = A at ⊢
  have hA : ∀ q : Nat, s.heap.size ≤ q → A q := fun q h => by rw [← hAe]; exact Or.inr h
  have hS : va_S A s.heap s.heap [] := va_S.rf
  have hl := lv_entry ([.ref mo, .int n]) (n := 2) (Nat.le_of_ble_eq_true rfl)
  rw [lg_entry_eq]
  generalize (lg_sl ([.ref mo, .int n]) ++ List.replicate (2 - (lg_sl ([.ref mo, .int n])).length) Slot.unset).toArray = ls at hl ⊢
  have hl : lv_has ls 2 [(0, .ref mo), (1, .int n)] := hl
  have z0 : (0 : Int32).toInt = 0 := by decide
  have z1 : (1 : Int32).toInt = 1 := by decide
  refine lv_iload_n hx hb dX12_isLock_0 rfl (lv_at hl 1 rfl) ?_
  refine lv_iconst (v := 0) hx hb dX12_isLock_1 (by decide) ?_
  refine lv_aload_n hx hb dX12_isLock_2 rfl (lv_at hl 0 rfl) ?_
  refine mg_12 hx hb ht hown hK hP dX12_isLock_3 ?_
  refine lv_aload_n hx hb dX12_isLock_6 rfl (lv_at hl 0 rfl) ?_
  refine mg_29 hx hb ht hown hK hP dX12_isLock_7 ?_
  have q_1 : 0 ≤ (v 29).toInt ∧ (v 29).toInt ≤ 1 := hv 29
  have q_2 : vp_in (v 29) 2 := vp_in_iff.mpr ⟨by omega, by omega⟩
  refine ml_12 hx hb hK hP q_2 dX12_isLock_10 ?_
  refine lv_topi (fun v_3 ev_3 => ?_)
  have q_4 : 0 ≤ v_3.toInt ∧ v_3.toInt ≤ 8 := by rw [ev_3]; exact MIf.rd 12 hf q_2
  have q_5 : v_3.toInt = ((f 12) (Int32.toNatClampNeg (v 29))).toInt := (congrArg Int32.toInt ev_3).trans (congrArg (fun z : Nat → Int32 => (z (Int32.toNatClampNeg (v 29))).toInt) (show f 12 = (f 12) from rfl))
  refine lv_iconst (v := 1) hx hb dX12_isLock_11 (by decide) ?_
  refine lv_isub hx hb dX12_isLock_12 ?_
  refine lv_topi (fun v_6 ev_6 => ?_)
  have q_7 : v_6.toInt = v_3.toInt - (1 : Int32).toInt := ow_sub ev_6 (by omega) (by omega)
  have hFc := fr_new hS hA
  refine va_calli (va_runS (As := [.int n, .int 0, .int v_6]) (rest := []) ⟨hx, hb, hml, hown, ht⟩ (m_isIn l G cy _  n (0) v_6  ) (va_cwS 3 ht (gs k_59 k_60 k_61 k_58) rfl rfl rfl (by decide +kernel) ⟨Nat.le_of_ble_eq_true rfl, Nat.le_of_ble_eq_true rfl⟩) ⟨En.blind, fun U hU hW => ⟨rfl, En.of hU hW (va_P0 (H := _)) hK va_D0 hN⟩⟩ rfl rfl hl.1 rfl (lv_room (Nat.le_of_ble_eq_true rfl)) dX12_isLock_13 ⟨Nat.le_of_ble_eq_true rfl, Nat.le_of_ble_eq_true rfl⟩) hS (fun q _ h => hFc q h) hFc (fun r_u_8 u_8 t9 H locs ht9 hvm hw hB hz1 hk1 hS => ?_)
  have hP := fr_keep hP hk1
  have wu_8 := hw
  clear hFc hk1 hz1 hB hw
  refine W.widen (k := 0) (n := 0) (Nat.le_of_ble_eq_true rfl) (Nat.le_of_ble_eq_true rfl) ?_
  exact W.zret (v := r_u_8) hx hb hr (ow_nb (by omega)) (fun t ht9 hW => ⟨⟨r_u_8, (), rfl, ⟨(by omega), (show (r_u_8.toInt = 0 ∨ n.toInt < (f 12 (Int32.toNatClampNeg (v 29))).toInt) from by first | omega | (subst_vars; first | rfl | omega))⟩, trivial⟩, hS.F ht9⟩) hS.2.2 dX12_isLock_16
set_option maxHeartbeats 4000000 in
set_option maxRecDepth 100000 in
theorem m_songOf (l : Launch) (G : va_G) (cy : Nat → ClassId) (sz : Nat) (mo : Nat) (h : Nat → Nat) (T : Int) (v : Nat → Int32) (nm : Int64) (f : Nat → Nat → Int32) (g : Nat → Nat → Int64) (n : Int32)  (hv : MIv T v) (hf : MIf f) (hR : RI v f) (hL : WL v f) (h_n : 0 ≤ n.toInt ∧ n.toInt ≤ 13) : Met l yX12_songOf (.code yX12_songOf cX12_songOf 2 (some .int) :: TBg) ({ frames := 1, cells := 0, slots := 0, locals := 64 }) (va_Pc [.ref mo, .int n] (En G cy (WMs cy mo h v nm f g) sz)) (va_Qi (fun (r : Int32) (_ : Unit) => (0 ≤ r.toInt ∧ r.toInt ≤ 27) ∧ r.toInt = 14 * (v 29).toInt + n.toInt) (fun _ _ => True) (va_A [] sz)) 0 0 (va_A [] sz) := by
  refine Met.ofW (cc := cX12_songOf) (maxL := 2) (ret := (some .int)) (by decide) rfl ?_
  intro p e s m args below meth c s₁ B hml hv9
  obtain ⟨rfl, hsz, hP, hK, hD0, hN⟩ := hv9
  have hx := B.exec
  have hb := B.bytes
  have hr := B.returns
  have hts := atoms_spec (ws := .code yX12_songOf cX12_songOf 2 (some .int) :: TBg) B.pre
  have ht : ∀ w ∈ TBg, w.before _ s = true := fun w h => hts w (List.mem_cons_of_mem _ h)
  have hown : s.vm.findClass RX12 = some m.cls := findClass_of_methodNamed B.named
  have hlocks := B.notSynchronized
  subst hsz
  generalize hAe : va_A [] s.heap.size = A at ⊢
  have hA : ∀ q : Nat, s.heap.size ≤ q → A q := fun q h => by rw [← hAe]; exact Or.inr h
  have hS : va_S A s.heap s.heap [] := va_S.rf
  have hl := lv_entry ([.ref mo, .int n]) (n := 2) (Nat.le_of_ble_eq_true rfl)
  rw [lg_entry_eq]
  generalize (lg_sl ([.ref mo, .int n]) ++ List.replicate (2 - (lg_sl ([.ref mo, .int n])).length) Slot.unset).toArray = ls at hl ⊢
  have hl : lv_has ls 2 [(0, .ref mo), (1, .int n)] := hl
  have z0 : (14 : Int32).toInt = 14 := by decide
  refine lv_bipush (v := 14) hx hb dX12_songOf_0 (by decide) ?_
  refine lv_aload_n hx hb dX12_songOf_2 rfl (lv_at hl 0 rfl) ?_
  refine mg_29 hx hb ht hown hK hP dX12_songOf_3 ?_
  have q_1 : 0 ≤ (v 29).toInt ∧ (v 29).toInt ≤ 1 := hv 29
  refine lv_imul hx hb dX12_songOf_6 ?_
  refine lv_topi (fun v_2 ev_2 => ?_)
  have q_3 : v_2.toInt = 14 * (v 29).toInt := ow_mul ev_2 (by decide) (by omega) (by omega)
  refine lv_iload_n hx hb dX12_songOf_7 rfl (lv_at hl 1 rfl) ?_
  refine lv_iadd hx hb dX12_songOf_8 ?_
  refine lv_topi (fun v_4 ev_4 => ?_)
  have q_5 : v_4.toInt = v_2.toInt + n.toInt := ow_add ev_4 (by omega) (by omega)
  refine W.widen (k := 0) (n := 0) (Nat.le_of_ble_eq_true rfl) (Nat.le_of_ble_eq_true rfl) ?_
  exact W.iret (v := v_4) hx hb hr (fun t ht9 hW => ⟨⟨v_4, (), rfl, ⟨(by omega), (show v_4.toInt = 14 * (v 29).toInt + n.toInt from by first | omega | (subst_vars; first | rfl | omega))⟩, trivial⟩, hS.F ht9⟩) hS.2.2 dX12_songOf_9
set_option maxHeartbeats 4000000 in
set_option maxRecDepth 100000 in
theorem m_many27 (l : Launch) (G : va_G) (cy : Nat → ClassId) (sz : Nat) (mo : Nat) (h : Nat → Nat) (T : Int) (v : Nat → Int32) (nm : Int64) (f : Nat → Nat → Int32) (g : Nat → Nat → Int64) (n : Int32)  (hv : MIv T v) (hf : MIf f) (hR : RI v f) (hL : WL v f) (h_n : 0 ≤ n.toInt ∧ n.toInt ≤ 27) : Met l yX12_manyOf (.code yX12_manyOf cX12_manyOf 2 (some .int) :: TBg) ({ frames := 1, cells := 0, slots := 0, locals := 64 }) (va_Pc [.ref mo, .int n] (En G cy (WMs cy mo h v nm f g) sz)) (va_Qi (fun (r : Int32) (_ : Unit) => (0 ≤ r.toInt ∧ r.toInt ≤ 12) ∧ r.toInt = (f 15 (Int32.toNatClampNeg n)).toInt) (fun _ _ => True) (va_A [] sz)) 0 0 (va_A [] sz) := by
  refine Met.ofW (cc := cX12_manyOf) (maxL := 2) (ret := (some .int)) (by decide) rfl ?_
  intro p e s m args below meth c s₁ B hml hv9
  obtain ⟨rfl, hsz, hP, hK, hD0, hN⟩ := hv9
  have hx := B.exec
  have hb := B.bytes
  have hr := B.returns
  have hts := atoms_spec (ws := .code yX12_manyOf cX12_manyOf 2 (some .int) :: TBg) B.pre
  have ht : ∀ w ∈ TBg, w.before _ s = true := fun w h => hts w (List.mem_cons_of_mem _ h)
  have hown : s.vm.findClass RX12 = some m.cls := findClass_of_methodNamed B.named
  have hlocks := B.notSynchronized
  subst hsz
  generalize hAe : va_A [] s.heap.size = A at ⊢
  have hA : ∀ q : Nat, s.heap.size ≤ q → A q := fun q h => by rw [← hAe]; exact Or.inr h
  have hS : va_S A s.heap s.heap [] := va_S.rf
  have hl := lv_entry ([.ref mo, .int n]) (n := 2) (Nat.le_of_ble_eq_true rfl)
  rw [lg_entry_eq]
  generalize (lg_sl ([.ref mo, .int n]) ++ List.replicate (2 - (lg_sl ([.ref mo, .int n])).length) Slot.unset).toArray = ls at hl ⊢
  have hl : lv_has ls 2 [(0, .ref mo), (1, .int n)] := hl
  have z0 : (28 : Int32).toInt = 28 := by decide
  refine lv_iload_n hx hb dX12_manyOf_0 rfl (lv_at hl 1 rfl) ?_
  refine lv_bipush (v := 28) hx hb dX12_manyOf_1 (by decide) ?_
  refine lv_icmp_ne (tgt := 13) hx hb dX12_manyOf_3 (by decide) (fun c_1 => ?_) (fun c_1 => ?_)
  · have q_2 : ¬ n.toInt = (28 : Int32).toInt := by have := (not_congr (ow_eq _ _)).mp c_1; omega
    refine lv_aload_n hx hb dX12_manyOf_13 rfl (lv_at hl 0 rfl) ?_
    refine mg_15 hx hb ht hown hK hP dX12_manyOf_14 ?_
    refine lv_iload_n hx hb dX12_manyOf_17 rfl (lv_at hl 1 rfl) ?_
    have q_3 : vp_in n 30 := vp_in_iff.mpr ⟨by omega, by omega⟩
    refine ml_15 hx hb hK hP q_3 dX12_manyOf_18 ?_
    refine lv_topi (fun v_4 ev_4 => ?_)
    have q_5 : 0 ≤ v_4.toInt ∧ v_4.toInt ≤ 12 := by rw [ev_4]; exact MIf.rd 15 hf q_3
    have q_6 : v_4.toInt = ((f 15) (Int32.toNatClampNeg n)).toInt := (congrArg Int32.toInt ev_4).trans (congrArg (fun z : Nat → Int32 => (z (Int32.toNatClampNeg n)).toInt) (show f 15 = (f 15) from rfl))
    refine W.widen (k := 0) (n := 0) (Nat.le_of_ble_eq_true rfl) (Nat.le_of_ble_eq_true rfl) ?_
    exact W.iret (v := v_4) hx hb hr (fun t ht9 hW => ⟨⟨v_4, (), rfl, ⟨(by omega), (show v_4.toInt = (f 15 (Int32.toNatClampNeg n)).toInt from by first | omega | (subst_vars; first | rfl | omega))⟩, trivial⟩, hS.F ht9⟩) hS.2.2 dX12_manyOf_19
  · have q_7 : n.toInt = (28 : Int32).toInt := (ow_eq _ _).mp c_1
    exfalso
    omega
set_option maxHeartbeats 4000000 in
set_option maxRecDepth 100000 in
theorem m_many28 (l : Launch) (G : va_G) (cy : Nat → ClassId) (sz : Nat) (mo : Nat) (h : Nat → Nat) (T : Int) (v : Nat → Int32) (nm : Int64) (f : Nat → Nat → Int32) (g : Nat → Nat → Int64) (n : Int32)  (hv : MIv T v) (hf : MIf f) (hR : RI v f) (hL : WL v f) (h_n : 0 ≤ n.toInt ∧ n.toInt ≤ 28) : Met l yX12_manyOf (.code yX12_manyOf cX12_manyOf 2 (some .int) :: TBg) ({ frames := 1, cells := 0, slots := 0, locals := 64 }) (va_Pc [.ref mo, .int n] (En G cy (WMs cy mo h v nm f g) sz)) (va_Qi (fun (r : Int32) (_ : Unit) => (0 ≤ r.toInt ∧ r.toInt ≤ 40)) (fun _ _ => True) (va_A [] sz)) 0 0 (va_A [] sz) := by
  refine Met.ofW (cc := cX12_manyOf) (maxL := 2) (ret := (some .int)) (by decide) rfl ?_
  intro p e s m args below meth c s₁ B hml hv9
  obtain ⟨rfl, hsz, hP, hK, hD0, hN⟩ := hv9
  have hx := B.exec
  have hb := B.bytes
  have hr := B.returns
  have hts := atoms_spec (ws := .code yX12_manyOf cX12_manyOf 2 (some .int) :: TBg) B.pre
  have ht : ∀ w ∈ TBg, w.before _ s = true := fun w h => hts w (List.mem_cons_of_mem _ h)
  have hown : s.vm.findClass RX12 = some m.cls := findClass_of_methodNamed B.named
  have hlocks := B.notSynchronized
  subst hsz
  generalize hAe : va_A [] s.heap.size = A at ⊢
  have hA : ∀ q : Nat, s.heap.size ≤ q → A q := fun q h => by rw [← hAe]; exact Or.inr h
  have hS : va_S A s.heap s.heap [] := va_S.rf
  have hl := lv_entry ([.ref mo, .int n]) (n := 2) (Nat.le_of_ble_eq_true rfl)
  rw [lg_entry_eq]
  generalize (lg_sl ([.ref mo, .int n]) ++ List.replicate (2 - (lg_sl ([.ref mo, .int n])).length) Slot.unset).toArray = ls at hl ⊢
  have hl : lv_has ls 2 [(0, .ref mo), (1, .int n)] := hl
  have z0 : (28 : Int32).toInt = 28 := by decide
  refine lv_iload_n hx hb dX12_manyOf_0 rfl (lv_at hl 1 rfl) ?_
  refine lv_bipush (v := 28) hx hb dX12_manyOf_1 (by decide) ?_
  refine lv_icmp_ne (tgt := 13) hx hb dX12_manyOf_3 (by decide) (fun c_1 => ?_) (fun c_1 => ?_)
  · have q_2 : ¬ n.toInt = (28 : Int32).toInt := by have := (not_congr (ow_eq _ _)).mp c_1; omega
    refine lv_aload_n hx hb dX12_manyOf_13 rfl (lv_at hl 0 rfl) ?_
    refine mg_15 hx hb ht hown hK hP dX12_manyOf_14 ?_
    refine lv_iload_n hx hb dX12_manyOf_17 rfl (lv_at hl 1 rfl) ?_
    have q_3 : vp_in n 30 := vp_in_iff.mpr ⟨by omega, by omega⟩
    refine ml_15 hx hb hK hP q_3 dX12_manyOf_18 ?_
    refine lv_topi (fun v_4 ev_4 => ?_)
    have q_5 : 0 ≤ v_4.toInt ∧ v_4.toInt ≤ 12 := by rw [ev_4]; exact MIf.rd 15 hf q_3
    have q_6 : v_4.toInt = ((f 15) (Int32.toNatClampNeg n)).toInt := (congrArg Int32.toInt ev_4).trans (congrArg (fun z : Nat → Int32 => (z (Int32.toNatClampNeg n)).toInt) (show f 15 = (f 15) from rfl))
    refine W.widen (k := 0) (n := 0) (Nat.le_of_ble_eq_true rfl) (Nat.le_of_ble_eq_true rfl) ?_
    exact W.iret (v := v_4) hx hb hr (fun t ht9 hW => ⟨⟨v_4, (), rfl, (by omega), trivial⟩, hS.F ht9⟩) hS.2.2 dX12_manyOf_19
  · have q_7 : n.toInt = (28 : Int32).toInt := (ow_eq _ _).mp c_1
    refine lv_aload_n hx hb dX12_manyOf_6 rfl (lv_at hl 0 rfl) ?_
    refine mg_34 hx hb ht hown hK hP dX12_manyOf_7 ?_
    have q_8 : 0 ≤ (v 34).toInt ∧ (v 34).toInt ≤ 40 := hv 34
    refine lv_goto (tgt := 19) hx hb dX12_manyOf_10 (by decide) ?_
    refine W.widen (k := 0) (n := 0) (Nat.le_of_ble_eq_true rfl) (Nat.le_of_ble_eq_true rfl) ?_
    exact W.iret (v := (v 34)) hx hb hr (fun t ht9 hW => ⟨⟨(v 34), (), rfl, (by omega), trivial⟩, hS.F ht9⟩) hS.2.2 dX12_manyOf_19
set_option maxHeartbeats 4000000 in
set_option maxRecDepth 100000 in
theorem m_stepOf (l : Launch) (G : va_G) (cy : Nat → ClassId) (sz : Nat) (mo : Nat) (h : Nat → Nat) (T : Int) (v : Nat → Int32) (nm : Int64) (f : Nat → Nat → Int32) (g : Nat → Nat → Int64) (n : Int32) (n2 : Int32)  (hv : MIv T v) (hf : MIf f) (hR : RI v f) (hL : WL v f) (h_n : 0 ≤ n.toInt ∧ n.toInt ≤ 28) (h_n2 : 0 ≤ n2.toInt ∧ n2.toInt ≤ 78) : Met l yX12_stepOf (.code yX12_stepOf cX12_stepOf 3 (some .int) :: TBg) ({ frames := 1, cells := 0, slots := 0, locals := 64 }) (va_Pc [.ref mo, .int n, .int n2] (En G cy (WMs cy mo h v nm f g) sz)) (va_Qi (fun (r : Int32) (_ : Unit) => True) (fun _ _ => True) (va_A [] sz)) 0 0 (va_A [] sz) := by
  refine Met.ofW (cc := cX12_stepOf) (maxL := 3) (ret := (some .int)) (by decide) rfl ?_
  intro p e s m args below meth c s₁ B hml hv9
  obtain ⟨rfl, hsz, hP, hK, hD0, hN⟩ := hv9
  have hx := B.exec
  have hb := B.bytes
  have hr := B.returns
  have hts := atoms_spec (ws := .code yX12_stepOf cX12_stepOf 3 (some .int) :: TBg) B.pre
  have ht : ∀ w ∈ TBg, w.before _ s = true := fun w h => hts w (List.mem_cons_of_mem _ h)
  have hown : s.vm.findClass RX12 = some m.cls := findClass_of_methodNamed B.named
  have hlocks := B.notSynchronized
  subst hsz
  generalize hAe : va_A [] s.heap.size = A at ⊢
  have hA : ∀ q : Nat, s.heap.size ≤ q → A q := fun q h => by rw [← hAe]; exact Or.inr h
  have hS : va_S A s.heap s.heap [] := va_S.rf
  have hl := lv_entry ([.ref mo, .int n, .int n2]) (n := 3) (Nat.le_of_ble_eq_true rfl)
  rw [lg_entry_eq]
  generalize (lg_sl ([.ref mo, .int n, .int n2]) ++ List.replicate (3 - (lg_sl ([.ref mo, .int n, .int n2])).length) Slot.unset).toArray = ls at hl ⊢
  have hl : lv_has ls 3 [(0, .ref mo), (1, .int n), (2, .int n2)] := hl
  have z0 : (1 : Int32).toInt = 1 := by decide
  have z1 : (40 : Int32).toInt = 40 := by decide
  refine lv_aload_n hx hb dX12_stepOf_0 rfl (lv_at hl 0 rfl) ?_
  refine mg_16 hx hb ht hown hK hP dX12_stepOf_1 ?_
  refine lv_bipush (v := 40) hx hb dX12_stepOf_4 (by decide) ?_
  refine lv_iload_n hx hb dX12_stepOf_6 rfl (lv_at hl 1 rfl) ?_
  refine lv_imul hx hb dX12_stepOf_7 ?_
  refine lv_topi (fun v_1 ev_1 => ?_)
  have q_2 : v_1.toInt = 40 * n.toInt := ow_mul ev_1 (by decide) (by omega) (by omega)
  refine lv_iload_n hx hb dX12_stepOf_8 rfl (lv_at hl 2 rfl) ?_
  refine lv_iadd hx hb dX12_stepOf_9 ?_
  refine lv_topi (fun v_3 ev_3 => ?_)
  have q_4 : v_3.toInt = v_1.toInt + n2.toInt := ow_add ev_3 (by omega) (by omega)
  refine lv_iconst (v := 1) hx hb dX12_stepOf_10 (by decide) ?_
  refine lv_iadd hx hb dX12_stepOf_11 ?_
  refine lv_topi (fun v_5 ev_5 => ?_)
  have q_6 : v_5.toInt = v_3.toInt + (1 : Int32).toInt := ow_add ev_5 (by omega) (by omega)
  have q_7 : vp_in v_5 1200 := vp_in_iff.mpr ⟨by omega, by omega⟩
  refine ml_16 hx hb hK hP q_7 dX12_stepOf_12 ?_
  refine lv_topi (fun v_8 ev_8 => ?_)
  refine lv_aload_n hx hb dX12_stepOf_13 rfl (lv_at hl 0 rfl) ?_
  refine mg_16 hx hb ht hown hK hP dX12_stepOf_14 ?_
  refine lv_bipush (v := 40) hx hb dX12_stepOf_17 (by decide) ?_
  refine lv_iload_n hx hb dX12_stepOf_19 rfl (lv_at hl 1 rfl) ?_
  refine lv_imul hx hb dX12_stepOf_20 ?_
  refine lv_topi (fun v_9 ev_9 => ?_)
  have q_10 : v_9.toInt = 40 * n.toInt := ow_mul ev_9 (by decide) (by omega) (by omega)
  refine lv_iload_n hx hb dX12_stepOf_21 rfl (lv_at hl 2 rfl) ?_
  refine lv_iadd hx hb dX12_stepOf_22 ?_
  refine lv_topi (fun v_11 ev_11 => ?_)
  have q_12 : v_11.toInt = v_9.toInt + n2.toInt := ow_add ev_11 (by omega) (by omega)
  have q_13 : vp_in v_11 1200 := vp_in_iff.mpr ⟨by omega, by omega⟩
  refine ml_16 hx hb hK hP q_13 dX12_stepOf_23 ?_
  refine lv_topi (fun v_14 ev_14 => ?_)
  refine lv_isub hx hb dX12_stepOf_24 ?_
  refine lv_topi (fun v_15 ev_15 => ?_)
  refine W.widen (k := 0) (n := 0) (Nat.le_of_ble_eq_true rfl) (Nat.le_of_ble_eq_true rfl) ?_
  exact W.iret (v := v_15) hx hb hr (fun t ht9 hW => ⟨⟨v_15, (), rfl, trivial, trivial⟩, hS.F ht9⟩) hS.2.2 dX12_stepOf_25
set_option maxHeartbeats 4000000 in
set_option maxRecDepth 100000 in
theorem m_isOut (l : Launch) (G : va_G) (cy : Nat → ClassId) (sz : Nat) (mo : Nat) (h : Nat → Nat) (T : Int) (v : Nat → Int32) (nm : Int64) (f : Nat → Nat → Int32) (g : Nat → Nat → Int64) (n : Int32) (n2 : Int32) (n3 : Int32) (n4 : Int32)  (hv : MIv T v) (hf : MIf f) (hR : RI v f) (hL : WL v f) (h_n : 0 ≤ n.toInt ∧ n.toInt ≤ 28) (h_n2 : 0 ≤ n2.toInt ∧ n2.toInt ≤ 28) (h_n3 : 0 ≤ n3.toInt ∧ n3.toInt ≤ 40) (h_n4 : 0 ≤ n4.toInt ∧ n4.toInt ≤ 12) : Met l yX12_isOutOfPace (.code yX12_isOutOfPace cX12_isOutOfPace 5 (some .boolean) :: TBg) ({ frames := 1, cells := 0, slots := 0, locals := 64 }) (va_Pc [.ref mo, .int n, .int n2, .int n3, .int n4] (En G cy (WMs cy mo h v nm f g) sz)) (va_Qi (fun (r : Int32) (_ : Unit) => (r.toInt = 0 ∨ r.toInt = 1)) (fun _ _ => True) (va_A [] sz)) 0 0 (va_A [] sz) := by
  refine Met.ofW (cc := cX12_isOutOfPace) (maxL := 5) (ret := (some .boolean)) (by decide) rfl ?_
  intro p e s m args below meth c s₁ B hml hv9
  obtain ⟨rfl, hsz, hP, hK, hD0, hN⟩ := hv9
  have hx := B.exec
  have hb := B.bytes
  have hr := B.returns
  have hts := atoms_spec (ws := .code yX12_isOutOfPace cX12_isOutOfPace 5 (some .boolean) :: TBg) B.pre
  have ht : ∀ w ∈ TBg, w.before _ s = true := fun w h => hts w (List.mem_cons_of_mem _ h)
  have hown : s.vm.findClass RX12 = some m.cls := findClass_of_methodNamed B.named
  have hlocks := B.notSynchronized
  subst hsz
  generalize hAe : va_A [] s.heap.size = A at ⊢
  have hA : ∀ q : Nat, s.heap.size ≤ q → A q := fun q h => by rw [← hAe]; exact Or.inr h
  have hS : va_S A s.heap s.heap [] := va_S.rf
  have hl := lv_entry ([.ref mo, .int n, .int n2, .int n3, .int n4]) (n := 5) (Nat.le_of_ble_eq_true rfl)
  rw [lg_entry_eq]
  generalize (lg_sl ([.ref mo, .int n, .int n2, .int n3, .int n4]) ++ List.replicate (5 - (lg_sl ([.ref mo, .int n, .int n2, .int n3, .int n4])).length) Slot.unset).toArray = ls at hl ⊢
  have hl : lv_has ls 5 [(0, .ref mo), (1, .int n), (2, .int n2), (3, .int n3), (4, .int n4)] := hl
  have z0 : (0 : Int32).toInt = 0 := by decide
  have z1 : (1 : Int32).toInt = 1 := by decide
  have z2 : (40 : Int32).toInt = 40 := by decide
  refine lv_aload_n hx hb dX12_isOutOfPace_0 rfl (lv_at hl 0 rfl) ?_
  refine mg_17 hx hb ht hown hK hP dX12_isOutOfPace_1 ?_
  refine lv_bipush (v := 40) hx hb dX12_isOutOfPace_4 (by decide) ?_
  refine lv_iload_n hx hb dX12_isOutOfPace_6 rfl (lv_at hl 2 rfl) ?_
  refine lv_imul hx hb dX12_isOutOfPace_7 ?_
  refine lv_topi (fun v_1 ev_1 => ?_)
  have q_2 : v_1.toInt = 40 * n2.toInt := ow_mul ev_1 (by decide) (by omega) (by omega)
  refine lv_iload_n hx hb dX12_isOutOfPace_8 rfl (lv_at hl 3 rfl) ?_
  refine lv_iadd hx hb dX12_isOutOfPace_9 ?_
  refine lv_topi (fun v_3 ev_3 => ?_)
  have q_4 : v_3.toInt = v_1.toInt + n3.toInt := ow_add ev_3 (by omega) (by omega)
  refine lv_iload hx hb dX12_isOutOfPace_10 (lv_at hl 4 rfl) ?_
  refine lv_iadd hx hb dX12_isOutOfPace_12 ?_
  refine lv_topi (fun v_5 ev_5 => ?_)
  have q_6 : v_5.toInt = v_3.toInt + n4.toInt := ow_add ev_5 (by omega) (by omega)
  have q_7 : vp_in v_5 1200 := vp_in_iff.mpr ⟨by omega, by omega⟩
  refine ml_17 hx hb hK hP q_7 dX12_isOutOfPace_13 ?_
  refine lv_topi (fun v_8 ev_8 => ?_)
  have q_9 : 0 ≤ v_8.toInt ∧ v_8.toInt ≤ 9 := by rw [ev_8]; exact MIf.rd 17 hf q_7
  have q_10 : v_8.toInt = ((f 17) (Int32.toNatClampNeg v_5)).toInt := (congrArg Int32.toInt ev_8).trans (congrArg (fun z : Nat → Int32 => (z (Int32.toNatClampNeg v_5)).toInt) (show f 17 = (f 17) from rfl))
  refine lv_aload_n hx hb dX12_isOutOfPace_14 rfl (lv_at hl 0 rfl) ?_
  refine mg_17 hx hb ht hown hK hP dX12_isOutOfPace_15 ?_
  refine lv_bipush (v := 40) hx hb dX12_isOutOfPace_18 (by decide) ?_
  refine lv_iload_n hx hb dX12_isOutOfPace_20 rfl (lv_at hl 1 rfl) ?_
  refine lv_imul hx hb dX12_isOutOfPace_21 ?_
  refine lv_topi (fun v_11 ev_11 => ?_)
  have q_12 : v_11.toInt = 40 * n.toInt := ow_mul ev_11 (by decide) (by omega) (by omega)
  have q_13 : vp_in v_11 1200 := vp_in_iff.mpr ⟨by omega, by omega⟩
  refine ml_17 hx hb hK hP q_13 dX12_isOutOfPace_22 ?_
  refine lv_topi (fun v_14 ev_14 => ?_)
  have q_15 : 0 ≤ v_14.toInt ∧ v_14.toInt ≤ 9 := by rw [ev_14]; exact MIf.rd 17 hf q_13
  have q_16 : v_14.toInt = ((f 17) (Int32.toNatClampNeg v_11)).toInt := (congrArg Int32.toInt ev_14).trans (congrArg (fun z : Nat → Int32 => (z (Int32.toNatClampNeg v_11)).toInt) (show f 17 = (f 17) from rfl))
  refine lv_imul hx hb dX12_isOutOfPace_23 ?_
  refine lv_topi (fun v_17 ev_17 => ?_)
  refine lv_aload_n hx hb dX12_isOutOfPace_24 rfl (lv_at hl 0 rfl) ?_
  refine mg_17 hx hb ht hown hK hP dX12_isOutOfPace_25 ?_
  refine lv_bipush (v := 40) hx hb dX12_isOutOfPace_28 (by decide) ?_
  refine lv_iload_n hx hb dX12_isOutOfPace_30 rfl (lv_at hl 2 rfl) ?_
  refine lv_imul hx hb dX12_isOutOfPace_31 ?_
  refine lv_topi (fun v_18 ev_18 => ?_)
  have q_19 : v_18.toInt = 40 * n2.toInt := ow_mul ev_18 (by decide) (by omega) (by omega)
  refine lv_iload_n hx hb dX12_isOutOfPace_32 rfl (lv_at hl 3 rfl) ?_
  refine lv_iadd hx hb dX12_isOutOfPace_33 ?_
  refine lv_topi (fun v_20 ev_20 => ?_)
  have q_21 : v_20.toInt = v_18.toInt + n3.toInt := ow_add ev_20 (by omega) (by omega)
  have q_22 : vp_in v_20 1200 := vp_in_iff.mpr ⟨by omega, by omega⟩
  refine ml_17 hx hb hK hP q_22 dX12_isOutOfPace_34 ?_
  refine lv_topi (fun v_23 ev_23 => ?_)
  have q_24 : 0 ≤ v_23.toInt ∧ v_23.toInt ≤ 9 := by rw [ev_23]; exact MIf.rd 17 hf q_22
  have q_25 : v_23.toInt = ((f 17) (Int32.toNatClampNeg v_20)).toInt := (congrArg Int32.toInt ev_23).trans (congrArg (fun z : Nat → Int32 => (z (Int32.toNatClampNeg v_20)).toInt) (show f 17 = (f 17) from rfl))
  refine lv_aload_n hx hb dX12_isOutOfPace_35 rfl (lv_at hl 0 rfl) ?_
  refine mg_17 hx hb ht hown hK hP dX12_isOutOfPace_36 ?_
  refine lv_bipush (v := 40) hx hb dX12_isOutOfPace_39 (by decide) ?_
  refine lv_iload_n hx hb dX12_isOutOfPace_41 rfl (lv_at hl 1 rfl) ?_
  refine lv_imul hx hb dX12_isOutOfPace_42 ?_
  refine lv_topi (fun v_26 ev_26 => ?_)
  have q_27 : v_26.toInt = 40 * n.toInt := ow_mul ev_26 (by decide) (by omega) (by omega)
  refine lv_iload hx hb dX12_isOutOfPace_43 (lv_at hl 4 rfl) ?_
  refine lv_iadd hx hb dX12_isOutOfPace_45 ?_
  refine lv_topi (fun v_28 ev_28 => ?_)
  have q_29 : v_28.toInt = v_26.toInt + n4.toInt := ow_add ev_28 (by omega) (by omega)
  have q_30 : vp_in v_28 1200 := vp_in_iff.mpr ⟨by omega, by omega⟩
  refine ml_17 hx hb hK hP q_30 dX12_isOutOfPace_46 ?_
  refine lv_topi (fun v_31 ev_31 => ?_)
  have q_32 : 0 ≤ v_31.toInt ∧ v_31.toInt ≤ 9 := by rw [ev_31]; exact MIf.rd 17 hf q_30
  have q_33 : v_31.toInt = ((f 17) (Int32.toNatClampNeg v_28)).toInt := (congrArg Int32.toInt ev_31).trans (congrArg (fun z : Nat → Int32 => (z (Int32.toNatClampNeg v_28)).toInt) (show f 17 = (f 17) from rfl))
  refine lv_imul hx hb dX12_isOutOfPace_47 ?_
  refine lv_topi (fun v_34 ev_34 => ?_)
  refine lv_icmp_eq (tgt := 55) hx hb dX12_isOutOfPace_48 (by decide) (fun c_35 => ?_) (fun c_35 => ?_)
  · have q_36 : v_17.toInt = v_34.toInt := (ow_eq _ _).mp c_35
    refine lv_iconst (v := 0) hx hb dX12_isOutOfPace_55 (by decide) ?_
    refine W.widen (k := 0) (n := 0) (Nat.le_of_ble_eq_true rfl) (Nat.le_of_ble_eq_true rfl) ?_
    exact W.zret (v := 0) hx hb hr rfl (fun t ht9 hW => ⟨⟨0, (), rfl, (by omega), trivial⟩, hS.F ht9⟩) hS.2.2 dX12_isOutOfPace_56
  · have q_37 : ¬ v_17.toInt = v_34.toInt := by have := (not_congr (ow_eq _ _)).mp c_35; omega
    refine lv_iconst (v := 1) hx hb dX12_isOutOfPace_51 (by decide) ?_
    refine lv_goto (tgt := 56) hx hb dX12_isOutOfPace_52 (by decide) ?_
    refine W.widen (k := 0) (n := 0) (Nat.le_of_ble_eq_true rfl) (Nat.le_of_ble_eq_true rfl) ?_
    exact W.zret (v := 1) hx hb hr rfl (fun t ht9 hW => ⟨⟨1, (), rfl, (by omega), trivial⟩, hS.F ht9⟩) hS.2.2 dX12_isOutOfPace_56
