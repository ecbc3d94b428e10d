theorem dX12_image_0 : decode cX12_image 0 = .ok (.iload_n 1, 1) := by decide +kernel
theorem dX12_image_1 : decode cX12_image 1 = .ok (.iconst 0, 1) := by decide +kernel
theorem dX12_image_2 : decode cX12_image 2 = .ok (.iconst 2, 1) := by decide +kernel
theorem dX12_image_3 : decode cX12_image 3 = .ok (.invokestatic 311, 3) := by decide +kernel
theorem dX12_image_6 : decode cX12_image 6 = .ok (.ifCond .ne 5, 3) := by decide +kernel
theorem dX12_image_11 : decode cX12_image 11 = .ok (.aload_n 0, 1) := by decide +kernel
theorem dX12_image_12 : decode cX12_image 12 = .ok (.getfield 113, 3) := by decide +kernel
theorem dX12_image_15 : decode cX12_image 15 = .ok (.iload_n 1, 1) := by decide +kernel
theorem dX12_image_16 : decode cX12_image 16 = .ok (.aload_n 0, 1) := by decide +kernel
theorem dX12_image_17 : decode cX12_image 17 = .ok (.getfield 236, 3) := by decide +kernel
theorem dX12_image_20 : decode cX12_image 20 = .ok (.iastore, 1) := by decide +kernel
theorem dX12_image_21 : decode cX12_image 21 = .ok (.aload_n 0, 1) := by decide +kernel
theorem dX12_image_22 : decode cX12_image 22 = .ok (.getfield 128, 3) := by decide +kernel
theorem dX12_image_25 : decode cX12_image 25 = .ok (.iload_n 1, 1) := by decide +kernel
theorem dX12_image_26 : decode cX12_image 26 = .ok (.aload_n 0, 1) := by decide +kernel
theorem dX12_image_27 : decode cX12_image 27 = .ok (.getfield 239, 3) := by decide +kernel
theorem dX12_image_30 : decode cX12_image 30 = .ok (.bastore, 1) := by decide +kernel
theorem dX12_image_31 : decode cX12_image 31 = .ok (.iconst 0, 1) := by decide +kernel
theorem dX12_image_32 : decode cX12_image 32 = .ok (.istore_n 2, 1) := by decide +kernel
theorem dX12_image_33 : decode cX12_image 33 = .ok (.iload_n 2, 1) := by decide +kernel
theorem dX12_image_34 : decode cX12_image 34 = .ok (.bipush 40, 2) := by decide +kernel
theorem dX12_image_36 : decode cX12_image 36 = .ok (.if_icmp .ge 51, 3) := by decide +kernel
theorem dX12_image_39 : decode cX12_image 39 = .ok (.aload_n 0, 1) := by decide +kernel
theorem dX12_image_40 : decode cX12_image 40 = .ok (.getfield 116, 3) := by decide +kernel
theorem dX12_image_43 : decode cX12_image 43 = .ok (.bipush 40, 2) := by decide +kernel
theorem dX12_image_45 : decode cX12_image 45 = .ok (.iload_n 1, 1) := by decide +kernel
theorem dX12_image_46 : decode cX12_image 46 = .ok (.imul, 1) := by decide +kernel
theorem dX12_image_47 : decode cX12_image 47 = .ok (.iload_n 2, 1) := by decide +kernel
theorem dX12_image_48 : decode cX12_image 48 = .ok (.iadd, 1) := by decide +kernel
theorem dX12_image_49 : decode cX12_image 49 = .ok (.aload_n 0, 1) := by decide +kernel
theorem dX12_image_50 : decode cX12_image 50 = .ok (.getfield 36, 3) := by decide +kernel
theorem dX12_image_53 : decode cX12_image 53 = .ok (.sipush 1120, 3) := by decide +kernel
theorem dX12_image_56 : decode cX12_image 56 = .ok (.iload_n 2, 1) := by decide +kernel
theorem dX12_image_57 : decode cX12_image 57 = .ok (.iadd, 1) := by decide +kernel
theorem dX12_image_58 : decode cX12_image 58 = .ok (.iaload, 1) := by decide +kernel
theorem dX12_image_59 : decode cX12_image 59 = .ok (.iastore, 1) := by decide +kernel
theorem dX12_image_60 : decode cX12_image 60 = .ok (.aload_n 0, 1) := by decide +kernel
theorem dX12_image_61 : decode cX12_image 61 = .ok (.getfield 119, 3) := by decide +kernel
theorem dX12_image_64 : decode cX12_image 64 = .ok (.bipush 40, 2) := by decide +kernel
theorem dX12_image_66 : decode cX12_image 66 = .ok (.iload_n 1, 1) := by decide +kernel
theorem dX12_image_67 : decode cX12_image 67 = .ok (.imul, 1) := by decide +kernel
theorem dX12_image_68 : decode cX12_image 68 = .ok (.iload_n 2, 1) := by decide +kernel
theorem dX12_image_69 : decode cX12_image 69 = .ok (.iadd, 1) := by decide +kernel
theorem dX12_image_70 : decode cX12_image 70 = .ok (.aload_n 0, 1) := by decide +kernel
theorem dX12_image_71 : decode cX12_image 71 = .ok (.getfield 39, 3) := by decide +kernel
theorem dX12_image_74 : decode cX12_image 74 = .ok (.sipush 1120, 3) := by decide +kernel
theorem dX12_image_77 : decode cX12_image 77 = .ok (.iload_n 2, 1) := by decide +kernel
theorem dX12_image_78 : decode cX12_image 78 = .ok (.iadd, 1) := by decide +kernel
theorem dX12_image_79 : decode cX12_image 79 = .ok (.iaload, 1) := by decide +kernel
theorem dX12_image_80 : decode cX12_image 80 = .ok (.iastore, 1) := by decide +kernel
theorem dX12_image_81 : decode cX12_image 81 = .ok (.iinc 2 1, 3) := by decide +kernel
theorem dX12_image_84 : decode cX12_image 84 = .ok (.goto (-51), 3) := by decide +kernel
theorem dX12_image_87 : decode cX12_image 87 = .ok (.iconst 0, 1) := by decide +kernel
theorem dX12_image_88 : decode cX12_image 88 = .ok (.istore_n 2, 1) := by decide +kernel
theorem dX12_image_89 : decode cX12_image 89 = .ok (.iload_n 2, 1) := by decide +kernel
theorem dX12_image_90 : decode cX12_image 90 = .ok (.bipush 8, 2) := by decide +kernel
theorem dX12_image_92 : decode cX12_image 92 = .ok (.if_icmp .ge 43, 3) := by decide +kernel
theorem dX12_image_95 : decode cX12_image 95 = .ok (.aload_n 0, 1) := by decide +kernel
theorem dX12_image_96 : decode cX12_image 96 = .ok (.getfield 125, 3) := by decide +kernel
theorem dX12_image_99 : decode cX12_image 99 = .ok (.bipush 8, 2) := by decide +kernel
theorem dX12_image_101 : decode cX12_image 101 = .ok (.iload_n 1, 1) := by decide +kernel
theorem dX12_image_102 : decode cX12_image 102 = .ok (.imul, 1) := by decide +kernel
theorem dX12_image_103 : decode cX12_image 103 = .ok (.iload_n 2, 1) := by decide +kernel
theorem dX12_image_104 : decode cX12_image 104 = .ok (.iadd, 1) := by decide +kernel
theorem dX12_image_105 : decode cX12_image 105 = .ok (.aload_n 0, 1) := by decide +kernel
theorem dX12_image_106 : decode cX12_image 106 = .ok (.getfield 77, 3) := by decide +kernel
theorem dX12_image_109 : decode cX12_image 109 = .ok (.iload_n 2, 1) := by decide +kernel
theorem dX12_image_110 : decode cX12_image 110 = .ok (.baload, 1) := by decide +kernel
theorem dX12_image_111 : decode cX12_image 111 = .ok (.bastore, 1) := by decide +kernel
theorem dX12_image_112 : decode cX12_image 112 = .ok (.aload_n 0, 1) := by decide +kernel
theorem dX12_image_113 : decode cX12_image 113 = .ok (.getfield 122, 3) := by decide +kernel
theorem dX12_image_116 : decode cX12_image 116 = .ok (.bipush 8, 2) := by decide +kernel
theorem dX12_image_118 : decode cX12_image 118 = .ok (.iload_n 1, 1) := by decide +kernel
theorem dX12_image_119 : decode cX12_image 119 = .ok (.imul, 1) := by decide +kernel
theorem dX12_image_120 : decode cX12_image 120 = .ok (.iload_n 2, 1) := by decide +kernel
theorem dX12_image_121 : decode cX12_image 121 = .ok (.iadd, 1) := by decide +kernel
theorem dX12_image_122 : decode cX12_image 122 = .ok (.aload_n 0, 1) := by decide +kernel
theorem dX12_image_123 : decode cX12_image 123 = .ok (.getfield 80, 3) := by decide +kernel
theorem dX12_image_126 : decode cX12_image 126 = .ok (.iload_n 2, 1) := by decide +kernel
theorem dX12_image_127 : decode cX12_image 127 = .ok (.iaload, 1) := by decide +kernel
theorem dX12_image_128 : decode cX12_image 128 = .ok (.iastore, 1) := by decide +kernel
theorem dX12_image_129 : decode cX12_image 129 = .ok (.iinc 2 1, 3) := by decide +kernel
theorem dX12_image_132 : decode cX12_image 132 = .ok (.goto (-43), 3) := by decide +kernel
theorem dX12_image_135 : decode cX12_image 135 = .ok (.aload_n 0, 1) := by decide +kernel
theorem dX12_image_136 : decode cX12_image 136 = .ok (.getfield 236, 3) := by decide +kernel
theorem dX12_image_139 : decode cX12_image 139 = .ok (.ireturn, 1) := by decide +kernel
set_option maxHeartbeats 4000000 in
set_option maxRecDepth 100000 in
theorem m_image0 (l : Launch) (G : va_G) (cy : Nat → ClassId) (sz : Nat) (mo : Nat) (h : Nat → Nat) (f : Nat → Nat → Int32)  : Met l yX12_image (.code yX12_image cX12_image 3 (some .int) :: TBg) ({ frames := 2, cells := 0, slots := 0, locals := 128 }) (va_Pc [.ref mo, .int 0] (En G cy (WM cy mo h f) sz)) (va_Qi (fun (r : Int32) (_ : Unit) => r = 0 ∧ True) (fun _ _ => True) (va_A (WM cy mo h f) sz)) 0 0 (va_A (WM cy mo h f) sz) := by
  refine Met.ofW (cc := cX12_image) (maxL := 3) (ret := (some .int)) (by decide) rfl ?_
  intro p e s m args below meth c s₁ B hml hv
  obtain ⟨rfl, hsz, hP, hK, hD0, hN⟩ := hv
  have hx := B.exec
  have hb := B.bytes
  have hr := B.returns
  have hts := atoms_spec (ws := .code yX12_image cX12_image 3 (some .int) :: TBg) B.pre
  have ht : ∀ w ∈ TBg, w.before _ s = true := fun w h => hts w (List.mem_cons_of_mem _ h)
  have hown : s.vm.findClass RX12 = some m.cls := findClass_of_methodNamed B.named
  have hlocks := B.notSynchronized
  subst hsz
  have hD := hD0.self (sz := s.heap.size)
  generalize hAe : va_A (WM cy mo h f) s.heap.size = A at hD ⊢
  have hA : ∀ q : Nat, s.heap.size ≤ q → A q := fun q h => by rw [← hAe]; exact Or.inr h
  have hS : va_S A s.heap s.heap [] := va_S.rf
  have hl := lv_entry ([.ref mo, .int 0]) (n := 3) (Nat.le_of_ble_eq_true rfl)
  rw [lg_entry_eq]
  generalize (lg_sl ([.ref mo, .int 0]) ++ List.replicate (3 - (lg_sl ([.ref mo, .int 0])).length) Slot.unset).toArray = ls at hl ⊢
  have hl : lv_has ls 3 [(0, .ref mo), (1, .int 0)] := hl
  refine lv_iload_n hx hb dX12_image_0 rfl (lv_at hl 1 rfl) ?_
  refine lv_iconst (v := 0) hx hb dX12_image_1 (by decide) ?_
  refine lv_iconst (v := 2) hx hb dX12_image_2 (by decide) ?_
  have hFc := fr_new hS hA
  have hPc := hP.sub (ws' := []) [] rfl
  have hDc := hD.sub (ws' := []) [] (by decide) rfl
  refine va_calli (va_runS (As := [.int 0, .int 0, .int 2]) (rest := []) ⟨hx, hb, hml, hown, ht⟩ (m_isIn l G cy _ 0 0 2 ) (va_cwS 3 ht (gs k_317 k_318 k_314 k_316) rfl rfl rfl (by decide +kernel) ⟨Nat.le_of_ble_eq_true rfl, Nat.le_of_ble_eq_true rfl⟩) ⟨En.blind, fun U hU hW => ⟨rfl, En.of hU hW hPc hK hDc hN⟩⟩ rfl rfl hl.1 rfl (lv_room (Nat.le_of_ble_eq_true rfl)) dX12_image_3 ⟨Nat.le_of_ble_eq_true rfl, Nat.le_of_ble_eq_true rfl⟩) hS (fun q _ h => hFc q h) hFc (fun r_2 u_1 t H locs ht9 hvm hw hB hz1 hk1 hS => ?_)
  have hP := fr_keep hP hk1
  have e_3 := hw.1
  obtain rfl : r_2 = 1 := e_3.trans (by decide)
  refine lv_if_ne (tgt := 11) hx hb dX12_image_6 (by decide) (fun _ => ?_) (fun c9 => absurd c9 (by decide))
  refine lv_aload_n hx hb dX12_image_11 rfl (lv_at hl 0 rfl) ?_
  refine va_get (ci := 12) (v := .ref (h 32)) (C := RX12) (T := TX12) (N := 58) hx hb ht iX12 hown hK hP 0 rfl rfl 52 (by decide) (ht _ k_304) (fun _ h9 => h9) rfl dX12_image_12 ?_
  refine lv_iload_n hx hb dX12_image_15 rfl (lv_at hl 1 rfl) ?_
  refine lv_aload_n hx hb dX12_image_16 rfl (lv_at hl 0 rfl) ?_
  refine va_get (ci := 12) (v := .int 0) (C := RX12) (T := TX12) (N := 58) hx hb ht iX12 hown hK hP 0 rfl rfl 34 (by decide) (ht _ k_355) (fun _ h9 => h9) rfl dX12_image_17 ?_
  refine ow_iast hx hb hK hP hD hS 11 rfl (in_lit (by decide +kernel)) dX12_image_20 ?_
  clear hP hD hS
  try clear H locs
  intro f_4 H locs hP hD hS
  replace hP : va_P G vwCl [(mo, .inr (12, [.ref (h 0), .ref (h 1), .int 0, .int 0, .int 0, .int (-1), .int 0, .int 0, .int 0, .int 0, .long 0, .ref (h 2), .ref (h 3), .ref (h 4), .ref (h 5), .ref (h 6), .ref (h 7), .ref (h 8), .ref (h 9), .ref (h 10), .ref (h 11), .ref (h 12), .ref (h 13), .ref (h 14), .ref (h 15), .ref (h 16), .ref (h 17), .ref (h 18), .ref (h 19), .int 0, .int 0, .int 0, .int 0, .int 0, .int 0, .ref (h 20), .ref (h 21), .int 0, .ref (h 22), .ref (h 23), .ref (h 24), .ref (h 25), .ref (h 26), .int 0, .int 0, .ref (h 27), .ref (h 28), .ref (h 29), .ref (h 30), .ref (h 31), .int 0, .int 0, .ref (h 32), .ref (h 33), .ref (h 34), .ref (h 35), .ref (h 36), .ref (h 37)])), ((h 0), .inl (cy 1, 1720, .inl (fun _ => 0))), ((h 2), .inl (cy 0, 2, .inl (fun _ => 0))), ((h 3), .inl (cy 0, 2, .inl (fun _ => 0))), ((h 4), .inl (cy 0, 2, .inl (fun _ => 0))), ((h 5), .inl (cy 0, 2, .inl (f 0))), ((h 12), .inl (cy 2, 2, .inl (f 1))), ((h 7), .inl (cy 0, 1200, .inl (fun _ => 0))), ((h 8), .inl (cy 0, 1200, .inl (fun _ => 0))), ((h 20), .inl (cy 2, 8, .inl (fun _ => 0))), ((h 21), .inl (cy 0, 8, .inl (fun _ => 0))), ((h 32), .inl (cy 0, 3, .inl f_4)), ((h 33), .inl (cy 0, 120, .inl (fun _ => 0))), ((h 34), .inl (cy 0, 120, .inl (fun _ => 0))), ((h 35), .inl (cy 0, 24, .inl (fun _ => 0))), ((h 36), .inl (cy 2, 24, .inl (fun _ => 0))), ((h 37), .inl (cy 2, 3, .inl (fun _ => 0)))] H := hP
  replace hD : va_D A [(mo, .inr (12, [.ref (h 0), .ref (h 1), .int 0, .int 0, .int 0, .int (-1), .int 0, .int 0, .int 0, .int 0, .long 0, .ref (h 2), .ref (h 3), .ref (h 4), .ref (h 5), .ref (h 6), .ref (h 7), .ref (h 8), .ref (h 9), .ref (h 10), .ref (h 11), .ref (h 12), .ref (h 13), .ref (h 14), .ref (h 15), .ref (h 16), .ref (h 17), .ref (h 18), .ref (h 19), .int 0, .int 0, .int 0, .int 0, .int 0, .int 0, .ref (h 20), .ref (h 21), .int 0, .ref (h 22), .ref (h 23), .ref (h 24), .ref (h 25), .ref (h 26), .int 0, .int 0, .ref (h 27), .ref (h 28), .ref (h 29), .ref (h 30), .ref (h 31), .int 0, .int 0, .ref (h 32), .ref (h 33), .ref (h 34), .ref (h 35), .ref (h 36), .ref (h 37)])), ((h 0), .inl (cy 1, 1720, .inl (fun _ => 0))), ((h 2), .inl (cy 0, 2, .inl (fun _ => 0))), ((h 3), .inl (cy 0, 2, .inl (fun _ => 0))), ((h 4), .inl (cy 0, 2, .inl (fun _ => 0))), ((h 5), .inl (cy 0, 2, .inl (f 0))), ((h 12), .inl (cy 2, 2, .inl (f 1))), ((h 7), .inl (cy 0, 1200, .inl (fun _ => 0))), ((h 8), .inl (cy 0, 1200, .inl (fun _ => 0))), ((h 20), .inl (cy 2, 8, .inl (fun _ => 0))), ((h 21), .inl (cy 0, 8, .inl (fun _ => 0))), ((h 32), .inl (cy 0, 3, .inl f_4)), ((h 33), .inl (cy 0, 120, .inl (fun _ => 0))), ((h 34), .inl (cy 0, 120, .inl (fun _ => 0))), ((h 35), .inl (cy 0, 24, .inl (fun _ => 0))), ((h 36), .inl (cy 2, 24, .inl (fun _ => 0))), ((h 37), .inl (cy 2, 3, .inl (fun _ => 0)))] := hD
  refine lv_aload_n hx hb dX12_image_21 rfl (lv_at hl 0 rfl) ?_
  refine va_get (ci := 12) (v := .ref (h 37)) (C := RX12) (T := TX12) (N := 58) hx hb ht iX12 hown hK hP 0 rfl rfl 57 (by decide) (ht _ k_309) (fun _ h9 => h9) rfl dX12_image_22 ?_
  refine lv_iload_n hx hb dX12_image_25 rfl (lv_at hl 1 rfl) ?_
  refine lv_aload_n hx hb dX12_image_26 rfl (lv_at hl 0 rfl) ?_
  refine va_get (ci := 12) (v := .int 0) (C := RX12) (T := TX12) (N := 58) hx hb ht iX12 hown hK hP 0 rfl rfl 37 (by decide) (ht _ k_356) (fun _ h9 => h9) rfl dX12_image_27 ?_
  refine ow_zast hx hb hK hP hD hS 16 rfl (in_lit (by decide +kernel)) dX12_image_30 ?_
  clear hP hD hS
  try clear H locs
  intro f_5 H locs hP hD hS
  replace hP : va_P G vwCl [(mo, .inr (12, [.ref (h 0), .ref (h 1), .int 0, .int 0, .int 0, .int (-1), .int 0, .int 0, .int 0, .int 0, .long 0, .ref (h 2), .ref (h 3), .ref (h 4), .ref (h 5), .ref (h 6), .ref (h 7), .ref (h 8), .ref (h 9), .ref (h 10), .ref (h 11), .ref (h 12), .ref (h 13), .ref (h 14), .ref (h 15), .ref (h 16), .ref (h 17), .ref (h 18), .ref (h 19), .int 0, .int 0, .int 0, .int 0, .int 0, .int 0, .ref (h 20), .ref (h 21), .int 0, .ref (h 22), .ref (h 23), .ref (h 24), .ref (h 25), .ref (h 26), .int 0, .int 0, .ref (h 27), .ref (h 28), .ref (h 29), .ref (h 30), .ref (h 31), .int 0, .int 0, .ref (h 32), .ref (h 33), .ref (h 34), .ref (h 35), .ref (h 36), .ref (h 37)])), ((h 0), .inl (cy 1, 1720, .inl (fun _ => 0))), ((h 2), .inl (cy 0, 2, .inl (fun _ => 0))), ((h 3), .inl (cy 0, 2, .inl (fun _ => 0))), ((h 4), .inl (cy 0, 2, .inl (fun _ => 0))), ((h 5), .inl (cy 0, 2, .inl (f 0))), ((h 12), .inl (cy 2, 2, .inl (f 1))), ((h 7), .inl (cy 0, 1200, .inl (fun _ => 0))), ((h 8), .inl (cy 0, 1200, .inl (fun _ => 0))), ((h 20), .inl (cy 2, 8, .inl (fun _ => 0))), ((h 21), .inl (cy 0, 8, .inl (fun _ => 0))), ((h 32), .inl (cy 0, 3, .inl f_4)), ((h 33), .inl (cy 0, 120, .inl (fun _ => 0))), ((h 34), .inl (cy 0, 120, .inl (fun _ => 0))), ((h 35), .inl (cy 0, 24, .inl (fun _ => 0))), ((h 36), .inl (cy 2, 24, .inl (fun _ => 0))), ((h 37), .inl (cy 2, 3, .inl f_5))] H := hP
  replace hD : va_D A [(mo, .inr (12, [.ref (h 0), .ref (h 1), .int 0, .int 0, .int 0, .int (-1), .int 0, .int 0, .int 0, .int 0, .long 0, .ref (h 2), .ref (h 3), .ref (h 4), .ref (h 5), .ref (h 6), .ref (h 7), .ref (h 8), .ref (h 9), .ref (h 10), .ref (h 11), .ref (h 12), .ref (h 13), .ref (h 14), .ref (h 15), .ref (h 16), .ref (h 17), .ref (h 18), .ref (h 19), .int 0, .int 0, .int 0, .int 0, .int 0, .int 0, .ref (h 20), .ref (h 21), .int 0, .ref (h 22), .ref (h 23), .ref (h 24), .ref (h 25), .ref (h 26), .int 0, .int 0, .ref (h 27), .ref (h 28), .ref (h 29), .ref (h 30), .ref (h 31), .int 0, .int 0, .ref (h 32), .ref (h 33), .ref (h 34), .ref (h 35), .ref (h 36), .ref (h 37)])), ((h 0), .inl (cy 1, 1720, .inl (fun _ => 0))), ((h 2), .inl (cy 0, 2, .inl (fun _ => 0))), ((h 3), .inl (cy 0, 2, .inl (fun _ => 0))), ((h 4), .inl (cy 0, 2, .inl (fun _ => 0))), ((h 5), .inl (cy 0, 2, .inl (f 0))), ((h 12), .inl (cy 2, 2, .inl (f 1))), ((h 7), .inl (cy 0, 1200, .inl (fun _ => 0))), ((h 8), .inl (cy 0, 1200, .inl (fun _ => 0))), ((h 20), .inl (cy 2, 8, .inl (fun _ => 0))), ((h 21), .inl (cy 0, 8, .inl (fun _ => 0))), ((h 32), .inl (cy 0, 3, .inl f_4)), ((h 33), .inl (cy 0, 120, .inl (fun _ => 0))), ((h 34), .inl (cy 0, 120, .inl (fun _ => 0))), ((h 35), .inl (cy 0, 24, .inl (fun _ => 0))), ((h 36), .inl (cy 2, 24, .inl (fun _ => 0))), ((h 37), .inl (cy 2, 3, .inl f_5))] := hD
  refine lv_iconst (v := 0) hx hb dX12_image_31 (by decide) ?_
  refine lv_istore_n (lv' := [(2, .int 0), (0, .ref mo), (1, .int 0)]) hx hb dX12_image_32 rfl hl (by decide) rfl ?_
  clear hl
  try clear ls
  intro ls hl
  refine lv_iload_n hx hb dX12_image_33 rfl (lv_at hl 0 rfl) ?_
  refine lv_bipush (v := 40) hx hb dX12_image_34 (by decide) ?_
  refine lv_icmp_ge (tgt := 87) hx hb dX12_image_36 (by decide) (fun c9 => absurd c9 (by decide)) (fun _ => ?_)
  refine lv_aload_n hx hb dX12_image_39 rfl (lv_at hl 1 rfl) ?_
  refine va_get (ci := 12) (v := .ref (h 33)) (C := RX12) (T := TX12) (N := 58) hx hb ht iX12 hown hK hP 0 rfl rfl 53 (by decide) (ht _ k_305) (fun _ h9 => h9) rfl dX12_image_40 ?_
  refine lv_bipush (v := 40) hx hb dX12_image_43 (by decide) ?_
  refine lv_iload_n hx hb dX12_image_45 rfl (lv_at hl 2 rfl) ?_
  refine lv_imul hx hb dX12_image_46 ?_
  refine ow_top 0 (by decide +kernel) ?_
  refine lv_iload_n hx hb dX12_image_47 rfl (lv_at hl 0 rfl) ?_
  refine lv_iadd hx hb dX12_image_48 ?_
  refine ow_top 0 (by decide +kernel) ?_
  refine lv_aload_n hx hb dX12_image_49 rfl (lv_at hl 1 rfl) ?_
  refine va_get (ci := 12) (v := .ref (h 7)) (C := RX12) (T := TX12) (N := 58) hx hb ht iX12 hown hK hP 0 rfl rfl 16 (by decide) (ht _ k_280) (fun _ h9 => h9) rfl dX12_image_50 ?_
  refine lv_sipush (v := 1120) hx hb dX12_image_53 (by decide) ?_
  refine lv_iload_n hx hb dX12_image_56 rfl (lv_at hl 0 rfl) ?_
  refine lv_iadd hx hb dX12_image_57 ?_
  refine ow_top 1120 (by decide +kernel) ?_
  refine va_iald hx hb hK hP 7 0 rfl rfl (in_lit (by decide +kernel)) dX12_image_58 ?_
  refine ow_top 0 rfl ?_
  refine ow_iastS hx hb hK hP hD hS 12 rfl (in_lit (by decide +kernel)) dX12_image_59 ?_
  clear hP hD hS
  try clear H locs
  intro H locs hP hD hS
  replace hP : va_P G vwCl [(mo, .inr (12, [.ref (h 0), .ref (h 1), .int 0, .int 0, .int 0, .int (-1), .int 0, .int 0, .int 0, .int 0, .long 0, .ref (h 2), .ref (h 3), .ref (h 4), .ref (h 5), .ref (h 6), .ref (h 7), .ref (h 8), .ref (h 9), .ref (h 10), .ref (h 11), .ref (h 12), .ref (h 13), .ref (h 14), .ref (h 15), .ref (h 16), .ref (h 17), .ref (h 18), .ref (h 19), .int 0, .int 0, .int 0, .int 0, .int 0, .int 0, .ref (h 20), .ref (h 21), .int 0, .ref (h 22), .ref (h 23), .ref (h 24), .ref (h 25), .ref (h 26), .int 0, .int 0, .ref (h 27), .ref (h 28), .ref (h 29), .ref (h 30), .ref (h 31), .int 0, .int 0, .ref (h 32), .ref (h 33), .ref (h 34), .ref (h 35), .ref (h 36), .ref (h 37)])), ((h 0), .inl (cy 1, 1720, .inl (fun _ => 0))), ((h 2), .inl (cy 0, 2, .inl (fun _ => 0))), ((h 3), .inl (cy 0, 2, .inl (fun _ => 0))), ((h 4), .inl (cy 0, 2, .inl (fun _ => 0))), ((h 5), .inl (cy 0, 2, .inl (f 0))), ((h 12), .inl (cy 2, 2, .inl (f 1))), ((h 7), .inl (cy 0, 1200, .inl (fun _ => 0))), ((h 8), .inl (cy 0, 1200, .inl (fun _ => 0))), ((h 20), .inl (cy 2, 8, .inl (fun _ => 0))), ((h 21), .inl (cy 0, 8, .inl (fun _ => 0))), ((h 32), .inl (cy 0, 3, .inl f_4)), ((h 33), .inl (cy 0, 120, .inl (fun _ => 0))), ((h 34), .inl (cy 0, 120, .inl (fun _ => 0))), ((h 35), .inl (cy 0, 24, .inl (fun _ => 0))), ((h 36), .inl (cy 2, 24, .inl (fun _ => 0))), ((h 37), .inl (cy 2, 3, .inl f_5))] H := hP
  replace hD : va_D A [(mo, .inr (12, [.ref (h 0), .ref (h 1), .int 0, .int 0, .int 0, .int (-1), .int 0, .int 0, .int 0, .int 0, .long 0, .ref (h 2), .ref (h 3), .ref (h 4), .ref (h 5), .ref (h 6), .ref (h 7), .ref (h 8), .ref (h 9), .ref (h 10), .ref (h 11), .ref (h 12), .ref (h 13), .ref (h 14), .ref (h 15), .ref (h 16), .ref (h 17), .ref (h 18), .ref (h 19), .int 0, .int 0, .int 0, .int 0, .int 0, .int 0, .ref (h 20), .ref (h 21), .int 0, .ref (h 22), .ref (h 23), .ref (h 24), .ref (h 25), .ref (h 26), .int 0, .int 0, .ref (h 27), .ref (h 28), .ref (h 29), .ref (h 30), .ref (h 31), .int 0, .int 0, .ref (h 32), .ref (h 33), .ref (h 34), .ref (h 35), .ref (h 36), .ref (h 37)])), ((h 0), .inl (cy 1, 1720, .inl (fun _ => 0))), ((h 2), .inl (cy 0, 2, .inl (fun _ => 0))), ((h 3), .inl (cy 0, 2, .inl (fun _ => 0))), ((h 4), .inl (cy 0, 2, .inl (fun _ => 0))), ((h 5), .inl (cy 0, 2, .inl (f 0))), ((h 12), .inl (cy 2, 2, .inl (f 1))), ((h 7), .inl (cy 0, 1200, .inl (fun _ => 0))), ((h 8), .inl (cy 0, 1200, .inl (fun _ => 0))), ((h 20), .inl (cy 2, 8, .inl (fun _ => 0))), ((h 21), .inl (cy 0, 8, .inl (fun _ => 0))), ((h 32), .inl (cy 0, 3, .inl f_4)), ((h 33), .inl (cy 0, 120, .inl (fun _ => 0))), ((h 34), .inl (cy 0, 120, .inl (fun _ => 0))), ((h 35), .inl (cy 0, 24, .inl (fun _ => 0))), ((h 36), .inl (cy 2, 24, .inl (fun _ => 0))), ((h 37), .inl (cy 2, 3, .inl f_5))] := hD
  refine lv_aload_n hx hb dX12_image_60 rfl (lv_at hl 1 rfl) ?_
  refine va_get (ci := 12) (v := .ref (h 34)) (C := RX12) (T := TX12) (N := 58) hx hb ht iX12 hown hK hP 0 rfl rfl 54 (by decide) (ht _ k_306) (fun _ h9 => h9) rfl dX12_image_61 ?_
  refine lv_bipush (v := 40) hx hb dX12_image_64 (by decide) ?_
  refine lv_iload_n hx hb dX12_image_66 rfl (lv_at hl 2 rfl) ?_
  refine lv_imul hx hb dX12_image_67 ?_
  refine ow_top 0 (by decide +kernel) ?_
  refine lv_iload_n hx hb dX12_image_68 rfl (lv_at hl 0 rfl) ?_
  refine lv_iadd hx hb dX12_image_69 ?_
  refine ow_top 0 (by decide +kernel) ?_
  refine lv_aload_n hx hb dX12_image_70 rfl (lv_at hl 1 rfl) ?_
  refine va_get (ci := 12) (v := .ref (h 8)) (C := RX12) (T := TX12) (N := 58) hx hb ht iX12 hown hK hP 0 rfl rfl 17 (by decide) (ht _ k_281) (fun _ h9 => h9) rfl dX12_image_71 ?_
  refine lv_sipush (v := 1120) hx hb dX12_image_74 (by decide) ?_
  refine lv_iload_n hx hb dX12_image_77 rfl (lv_at hl 0 rfl) ?_
  refine lv_iadd hx hb dX12_image_78 ?_
  refine ow_top 1120 (by decide +kernel) ?_
  refine va_iald hx hb hK hP 8 0 rfl rfl (in_lit (by decide +kernel)) dX12_image_79 ?_
  refine ow_top 0 rfl ?_
  refine ow_iastS hx hb hK hP hD hS 13 rfl (in_lit (by decide +kernel)) dX12_image_80 ?_
  clear hP hD hS
  try clear H locs
  intro H locs hP hD hS
  replace hP : va_P G vwCl [(mo, .inr (12, [.ref (h 0), .ref (h 1), .int 0, .int 0, .int 0, .int (-1), .int 0, .int 0, .int 0, .int 0, .long 0, .ref (h 2), .ref (h 3), .ref (h 4), .ref (h 5), .ref (h 6), .ref (h 7), .ref (h 8), .ref (h 9), .ref (h 10), .ref (h 11), .ref (h 12), .ref (h 13), .ref (h 14), .ref (h 15), .ref (h 16), .ref (h 17), .ref (h 18), .ref (h 19), .int 0, .int 0, .int 0, .int 0, .int 0, .int 0, .ref (h 20), .ref (h 21), .int 0, .ref (h 22), .ref (h 23), .ref (h 24), .ref (h 25), .ref (h 26), .int 0, .int 0, .ref (h 27), .ref (h 28), .ref (h 29), .ref (h 30), .ref (h 31), .int 0, .int 0, .ref (h 32), .ref (h 33), .ref (h 34), .ref (h 35), .ref (h 36), .ref (h 37)])), ((h 0), .inl (cy 1, 1720, .inl (fun _ => 0))), ((h 2), .inl (cy 0, 2, .inl (fun _ => 0))), ((h 3), .inl (cy 0, 2, .inl (fun _ => 0))), ((h 4), .inl (cy 0, 2, .inl (fun _ => 0))), ((h 5), .inl (cy 0, 2, .inl (f 0))), ((h 12), .inl (cy 2, 2, .inl (f 1))), ((h 7), .inl (cy 0, 1200, .inl (fun _ => 0))), ((h 8), .inl (cy 0, 1200, .inl (fun _ => 0))), ((h 20), .inl (cy 2, 8, .inl (fun _ => 0))), ((h 21), .inl (cy 0, 8, .inl (fun _ => 0))), ((h 32), .inl (cy 0, 3, .inl f_4)), ((h 33), .inl (cy 0, 120, .inl (fun _ => 0))), ((h 34), .inl (cy 0, 120, .inl (fun _ => 0))), ((h 35), .inl (cy 0, 24, .inl (fun _ => 0))), ((h 36), .inl (cy 2, 24, .inl (fun _ => 0))), ((h 37), .inl (cy 2, 3, .inl f_5))] H := hP
  replace hD : va_D A [(mo, .inr (12, [.ref (h 0), .ref (h 1), .int 0, .int 0, .int 0, .int (-1), .int 0, .int 0, .int 0, .int 0, .long 0, .ref (h 2), .ref (h 3), .ref (h 4), .ref (h 5), .ref (h 6), .ref (h 7), .ref (h 8), .ref (h 9), .ref (h 10), .ref (h 11), .ref (h 12), .ref (h 13), .ref (h 14), .ref (h 15), .ref (h 16), .ref (h 17), .ref (h 18), .ref (h 19), .int 0, .int 0, .int 0, .int 0, .int 0, .int 0, .ref (h 20), .ref (h 21), .int 0, .ref (h 22), .ref (h 23), .ref (h 24), .ref (h 25), .ref (h 26), .int 0, .int 0, .ref (h 27), .ref (h 28), .ref (h 29), .ref (h 30), .ref (h 31), .int 0, .int 0, .ref (h 32), .ref (h 33), .ref (h 34), .ref (h 35), .ref (h 36), .ref (h 37)])), ((h 0), .inl (cy 1, 1720, .inl (fun _ => 0))), ((h 2), .inl (cy 0, 2, .inl (fun _ => 0))), ((h 3), .inl (cy 0, 2, .inl (fun _ => 0))), ((h 4), .inl (cy 0, 2, .inl (fun _ => 0))), ((h 5), .inl (cy 0, 2, .inl (f 0))), ((h 12), .inl (cy 2, 2, .inl (f 1))), ((h 7), .inl (cy 0, 1200, .inl (fun _ => 0))), ((h 8), .inl (cy 0, 1200, .inl (fun _ => 0))), ((h 20), .inl (cy 2, 8, .inl (fun _ => 0))), ((h 21), .inl (cy 0, 8, .inl (fun _ => 0))), ((h 32), .inl (cy 0, 3, .inl f_4)), ((h 33), .inl (cy 0, 120, .inl (fun _ => 0))), ((h 34), .inl (cy 0, 120, .inl (fun _ => 0))), ((h 35), .inl (cy 0, 24, .inl (fun _ => 0))), ((h 36), .inl (cy 2, 24, .inl (fun _ => 0))), ((h 37), .inl (cy 2, 3, .inl f_5))] := hD
  refine lv_iinc (v := 1) (lv' := [(2, .int 1), (0, .ref mo), (1, .int 0)]) hx hb dX12_image_81 hl (k := 0) rfl (by decide) (by decide) rfl ?_
  clear hl
  try clear ls
  intro ls hl
  refine lv_goto (tgt := 33) hx hb dX12_image_84 (by decide) ?_
  refine lv_iload_n hx hb dX12_image_33 rfl (lv_at hl 0 rfl) ?_
  refine lv_bipush (v := 40) hx hb dX12_image_34 (by decide) ?_
  refine lv_icmp_ge (tgt := 87) hx hb dX12_image_36 (by decide) (fun c9 => absurd c9 (by decide)) (fun _ => ?_)
  refine lv_aload_n hx hb dX12_image_39 rfl (lv_at hl 1 rfl) ?_
  refine va_get (ci := 12) (v := .ref (h 33)) (C := RX12) (T := TX12) (N := 58) hx hb ht iX12 hown hK hP 0 rfl rfl 53 (by decide) (ht _ k_305) (fun _ h9 => h9) rfl dX12_image_40 ?_
  refine lv_bipush (v := 40) hx hb dX12_image_43 (by decide) ?_
  refine lv_iload_n hx hb dX12_image_45 rfl (lv_at hl 2 rfl) ?_
  refine lv_imul hx hb dX12_image_46 ?_
  refine ow_top 0 (by decide +kernel) ?_
  refine lv_iload_n hx hb dX12_image_47 rfl (lv_at hl 0 rfl) ?_
  refine lv_iadd hx hb dX12_image_48 ?_
  refine ow_top 1 (by decide +kernel) ?_
  refine lv_aload_n hx hb dX12_image_49 rfl (lv_at hl 1 rfl) ?_
  refine va_get (ci := 12) (v := .ref (h 7)) (C := RX12) (T := TX12) (N := 58) hx hb ht iX12 hown hK hP 0 rfl rfl 16 (by decide) (ht _ k_280) (fun _ h9 => h9) rfl dX12_image_50 ?_
  refine lv_sipush (v := 1120) hx hb dX12_image_53 (by decide) ?_
  refine lv_iload_n hx hb dX12_image_56 rfl (lv_at hl 0 rfl) ?_
  refine lv_iadd hx hb dX12_image_57 ?_
  refine ow_top 1121 (by decide +kernel) ?_
  refine va_iald hx hb hK hP 7 0 rfl rfl (in_lit (by decide +kernel)) dX12_image_58 ?_
  refine ow_top 0 rfl ?_
  refine ow_iastS hx hb hK hP hD hS 12 rfl (in_lit (by decide +kernel)) dX12_image_59 ?_
  clear hP hD hS
  try clear H locs
  intro H locs hP hD hS
  replace hP : va_P G vwCl [(mo, .inr (12, [.ref (h 0), .ref (h 1), .int 0, .int 0, .int 0, .int (-1), .int 0, .int 0, .int 0, .int 0, .long 0, .ref (h 2), .ref (h 3), .ref (h 4), .ref (h 5), .ref (h 6), .ref (h 7), .ref (h 8), .ref (h 9), .ref (h 10), .ref (h 11), .ref (h 12), .ref (h 13), .ref (h 14), .ref (h 15), .ref (h 16), .ref (h 17), .ref (h 18), .ref (h 19), .int 0, .int 0, .int 0, .int 0, .int 0, .int 0, .ref (h 20), .ref (h 21), .int 0, .ref (h 22), .ref (h 23), .ref (h 24), .ref (h 25), .ref (h 26), .int 0, .int 0, .ref (h 27), .ref (h 28), .ref (h 29), .ref (h 30), .ref (h 31), .int 0, .int 0, .ref (h 32), .ref (h 33), .ref (h 34), .ref (h 35), .ref (h 36), .ref (h 37)])), ((h 0), .inl (cy 1, 1720, .inl (fun _ => 0))), ((h 2), .inl (cy 0, 2, .inl (fun _ => 0))), ((h 3), .inl (cy 0, 2, .inl (fun _ => 0))), ((h 4), .inl (cy 0, 2, .inl (fun _ => 0))), ((h 5), .inl (cy 0, 2, .inl (f 0))), ((h 12), .inl (cy 2, 2, .inl (f 1))), ((h 7), .inl (cy 0, 1200, .inl (fun _ => 0))), ((h 8), .inl (cy 0, 1200, .inl (fun _ => 0))), ((h 20), .inl (cy 2, 8, .inl (fun _ => 0))), ((h 21), .inl (cy 0, 8, .inl (fun _ => 0))), ((h 32), .inl (cy 0, 3, .inl f_4)), ((h 33), .inl (cy 0, 120, .inl (fun _ => 0))), ((h 34), .inl (cy 0, 120, .inl (fun _ => 0))), ((h 35), .inl (cy 0, 24, .inl (fun _ => 0))), ((h 36), .inl (cy 2, 24, .inl (fun _ => 0))), ((h 37), .inl (cy 2, 3, .inl f_5))] H := hP
  replace hD : va_D A [(mo, .inr (12, [.ref (h 0), .ref (h 1), .int 0, .int 0, .int 0, .int (-1), .int 0, .int 0, .int 0, .int 0, .long 0, .ref (h 2), .ref (h 3), .ref (h 4), .ref (h 5), .ref (h 6), .ref (h 7), .ref (h 8), .ref (h 9), .ref (h 10), .ref (h 11), .ref (h 12), .ref (h 13), .ref (h 14), .ref (h 15), .ref (h 16), .ref (h 17), .ref (h 18), .ref (h 19), .int 0, .int 0, .int 0, .int 0, .int 0, .int 0, .ref (h 20), .ref (h 21), .int 0, .ref (h 22), .ref (h 23), .ref (h 24), .ref (h 25), .ref (h 26), .int 0, .int 0, .ref (h 27), .ref (h 28), .ref (h 29), .ref (h 30), .ref (h 31), .int 0, .int 0, .ref (h 32), .ref (h 33), .ref (h 34), .ref (h 35), .ref (h 36), .ref (h 37)])), ((h 0), .inl (cy 1, 1720, .inl (fun _ => 0))), ((h 2), .inl (cy 0, 2, .inl (fun _ => 0))), ((h 3), .inl (cy 0, 2, .inl (fun _ => 0))), ((h 4), .inl (cy 0, 2, .inl (fun _ => 0))), ((h 5), .inl (cy 0, 2, .inl (f 0))), ((h 12), .inl (cy 2, 2, .inl (f 1))), ((h 7), .inl (cy 0, 1200, .inl (fun _ => 0))), ((h 8), .inl (cy 0, 1200, .inl (fun _ => 0))), ((h 20), .inl (cy 2, 8, .inl (fun _ => 0))), ((h 21), .inl (cy 0, 8, .inl (fun _ => 0))), ((h 32), .inl (cy 0, 3, .inl f_4)), ((h 33), .inl (cy 0, 120, .inl (fun _ => 0))), ((h 34), .inl (cy 0, 120, .inl (fun _ => 0))), ((h 35), .inl (cy 0, 24, .inl (fun _ => 0))), ((h 36), .inl (cy 2, 24, .inl (fun _ => 0))), ((h 37), .inl (cy 2, 3, .inl f_5))] := hD
  refine lv_aload_n hx hb dX12_image_60 rfl (lv_at hl 1 rfl) ?_
  refine va_get (ci := 12) (v := .ref (h 34)) (C := RX12) (T := TX12) (N := 58) hx hb ht iX12 hown hK hP 0 rfl rfl 54 (by decide) (ht _ k_306) (fun _ h9 => h9) rfl dX12_image_61 ?_
  refine lv_bipush (v := 40) hx hb dX12_image_64 (by decide) ?_
  refine lv_iload_n hx hb dX12_image_66 rfl (lv_at hl 2 rfl) ?_
  refine lv_imul hx hb dX12_image_67 ?_
  refine ow_top 0 (by decide +kernel) ?_
  refine lv_iload_n hx hb dX12_image_68 rfl (lv_at hl 0 rfl) ?_
  refine lv_iadd hx hb dX12_image_69 ?_
  refine ow_top 1 (by decide +kernel) ?_
  refine lv_aload_n hx hb dX12_image_70 rfl (lv_at hl 1 rfl) ?_
  refine va_get (ci := 12) (v := .ref (h 8)) (C := RX12) (T := TX12) (N := 58) hx hb ht iX12 hown hK hP 0 rfl rfl 17 (by decide) (ht _ k_281) (fun _ h9 => h9) rfl dX12_image_71 ?_
  refine lv_sipush (v := 1120) hx hb dX12_image_74 (by decide) ?_
  refine lv_iload_n hx hb dX12_image_77 rfl (lv_at hl 0 rfl) ?_
  refine lv_iadd hx hb dX12_image_78 ?_
  refine ow_top 1121 (by decide +kernel) ?_
  refine va_iald hx hb hK hP 8 0 rfl rfl (in_lit (by decide +kernel)) dX12_image_79 ?_
  refine ow_top 0 rfl ?_
  refine ow_iastS hx hb hK hP hD hS 13 rfl (in_lit (by decide +kernel)) dX12_image_80 ?_
  clear hP hD hS
  try clear H locs
  intro H locs hP hD hS
  replace hP : va_P G vwCl [(mo, .inr (12, [.ref (h 0), .ref (h 1), .int 0, .int 0, .int 0, .int (-1), .int 0, .int 0, .int 0, .int 0, .long 0, .ref (h 2), .ref (h 3), .ref (h 4), .ref (h 5), .ref (h 6), .ref (h 7), .ref (h 8), .ref (h 9), .ref (h 10), .ref (h 11), .ref (h 12), .ref (h 13), .ref (h 14), .ref (h 15), .ref (h 16), .ref (h 17), .ref (h 18), .ref (h 19), .int 0, .int 0, .int 0, .int 0, .int 0, .int 0, .ref (h 20), .ref (h 21), .int 0, .ref (h 22), .ref (h 23), .ref (h 24), .ref (h 25), .ref (h 26), .int 0, .int 0, .ref (h 27), .ref (h 28), .ref (h 29), .ref (h 30), .ref (h 31), .int 0, .int 0, .ref (h 32), .ref (h 33), .ref (h 34), .ref (h 35), .ref (h 36), .ref (h 37)])), ((h 0), .inl (cy 1, 1720, .inl (fun _ => 0))), ((h 2), .inl (cy 0, 2, .inl (fun _ => 0))), ((h 3), .inl (cy 0, 2, .inl (fun _ => 0))), ((h 4), .inl (cy 0, 2, .inl (fun _ => 0))), ((h 5), .inl (cy 0, 2, .inl (f 0))), ((h 12), .inl (cy 2, 2, .inl (f 1))), ((h 7), .inl (cy 0, 1200, .inl (fun _ => 0))), ((h 8), .inl (cy 0, 1200, .inl (fun _ => 0))), ((h 20), .inl (cy 2, 8, .inl (fun _ => 0))), ((h 21), .inl (cy 0, 8, .inl (fun _ => 0))), ((h 32), .inl (cy 0, 3, .inl f_4)), ((h 33), .inl (cy 0, 120, .inl (fun _ => 0))), ((h 34), .inl (cy 0, 120, .inl (fun _ => 0))), ((h 35), .inl (cy 0, 24, .inl (fun _ => 0))), ((h 36), .inl (cy 2, 24, .inl (fun _ => 0))), ((h 37), .inl (cy 2, 3, .inl f_5))] H := hP
  replace hD : va_D A [(mo, .inr (12, [.ref (h 0), .ref (h 1), .int 0, .int 0, .int 0, .int (-1), .int 0, .int 0, .int 0, .int 0, .long 0, .ref (h 2), .ref (h 3), .ref (h 4), .ref (h 5), .ref (h 6), .ref (h 7), .ref (h 8), .ref (h 9), .ref (h 10), .ref (h 11), .ref (h 12), .ref (h 13), .ref (h 14), .ref (h 15), .ref (h 16), .ref (h 17), .ref (h 18), .ref (h 19), .int 0, .int 0, .int 0, .int 0, .int 0, .int 0, .ref (h 20), .ref (h 21), .int 0, .ref (h 22), .ref (h 23), .ref (h 24), .ref (h 25), .ref (h 26), .int 0, .int 0, .ref (h 27), .ref (h 28), .ref (h 29), .ref (h 30), .ref (h 31), .int 0, .int 0, .ref (h 32), .ref (h 33), .ref (h 34), .ref (h 35), .ref (h 36), .ref (h 37)])), ((h 0), .inl (cy 1, 1720, .inl (fun _ => 0))), ((h 2), .inl (cy 0, 2, .inl (fun _ => 0))), ((h 3), .inl (cy 0, 2, .inl (fun _ => 0))), ((h 4), .inl (cy 0, 2, .inl (fun _ => 0))), ((h 5), .inl (cy 0, 2, .inl (f 0))), ((h 12), .inl (cy 2, 2, .inl (f 1))), ((h 7), .inl (cy 0, 1200, .inl (fun _ => 0))), ((h 8), .inl (cy 0, 1200, .inl (fun _ => 0))), ((h 20), .inl (cy 2, 8, .inl (fun _ => 0))), ((h 21), .inl (cy 0, 8, .inl (fun _ => 0))), ((h 32), .inl (cy 0, 3, .inl f_4)), ((h 33), .inl (cy 0, 120, .inl (fun _ => 0))), ((h 34), .inl (cy 0, 120, .inl (fun _ => 0))), ((h 35), .inl (cy 0, 24, .inl (fun _ => 0))), ((h 36), .inl (cy 2, 24, .inl (fun _ => 0))), ((h 37), .inl (cy 2, 3, .inl f_5))] := hD
  refine lv_iinc (v := 2) (lv' := [(2, .int 2), (0, .ref mo), (1, .int 0)]) hx hb dX12_image_81 hl (k := 0) rfl (by decide) (by decide) rfl ?_
  clear hl
  try clear ls
  intro ls hl
  refine lv_goto (tgt := 33) hx hb dX12_image_84 (by decide) ?_
  refine lv_iload_n hx hb dX12_image_33 rfl (lv_at hl 0 rfl) ?_
  refine lv_bipush (v := 40) hx hb dX12_image_34 (by decide) ?_
  refine lv_icmp_ge (tgt := 87) hx hb dX12_image_36 (by decide) (fun c9 => absurd c9 (by decide)) (fun _ => ?_)
  refine lv_aload_n hx hb dX12_image_39 rfl (lv_at hl 1 rfl) ?_
  refine va_get (ci := 12) (v := .ref (h 33)) (C := RX12) (T := TX12) (N := 58) hx hb ht iX12 hown hK hP 0 rfl rfl 53 (by decide) (ht _ k_305) (fun _ h9 => h9) rfl dX12_image_40 ?_
  refine lv_bipush (v := 40) hx hb dX12_image_43 (by decide) ?_
  refine lv_iload_n hx hb dX12_image_45 rfl (lv_at hl 2 rfl) ?_
  refine lv_imul hx hb dX12_image_46 ?_
  refine ow_top 0 (by decide +kernel) ?_
  refine lv_iload_n hx hb dX12_image_47 rfl (lv_at hl 0 rfl) ?_
  refine lv_iadd hx hb dX12_image_48 ?_
  refine ow_top 2 (by decide +kernel) ?_
  refine lv_aload_n hx hb dX12_image_49 rfl (lv_at hl 1 rfl) ?_
  refine va_get (ci := 12) (v := .ref (h 7)) (C := RX12) (T := TX12) (N := 58) hx hb ht iX12 hown hK hP 0 rfl rfl 16 (by decide) (ht _ k_280) (fun _ h9 => h9) rfl dX12_image_50 ?_
  refine lv_sipush (v := 1120) hx hb dX12_image_53 (by decide) ?_
  refine lv_iload_n hx hb dX12_image_56 rfl (lv_at hl 0 rfl) ?_
  refine lv_iadd hx hb dX12_image_57 ?_
  refine ow_top 1122 (by decide +kernel) ?_
  refine va_iald hx hb hK hP 7 0 rfl rfl (in_lit (by decide +kernel)) dX12_image_58 ?_
  refine ow_top 0 rfl ?_
  refine ow_iastS hx hb hK hP hD hS 12 rfl (in_lit (by decide +kernel)) dX12_image_59 ?_
  clear hP hD hS
  try clear H locs
  intro H locs hP hD hS
  replace hP : va_P G vwCl [(mo, .inr (12, [.ref (h 0), .ref (h 1), .int 0, .int 0, .int 0, .int (-1), .int 0, .int 0, .int 0, .int 0, .long 0, .ref (h 2), .ref (h 3), .ref (h 4), .ref (h 5), .ref (h 6), .ref (h 7), .ref (h 8), .ref (h 9), .ref (h 10), .ref (h 11), .ref (h 12), .ref (h 13), .ref (h 14), .ref (h 15), .ref (h 16), .ref (h 17), .ref (h 18), .ref (h 19), .int 0, .int 0, .int 0, .int 0, .int 0, .int 0, .ref (h 20), .ref (h 21), .int 0, .ref (h 22), .ref (h 23), .ref (h 24), .ref (h 25), .ref (h 26), .int 0, .int 0, .ref (h 27), .ref (h 28), .ref (h 29), .ref (h 30), .ref (h 31), .int 0, .int 0, .ref (h 32), .ref (h 33), .ref (h 34), .ref (h 35), .ref (h 36), .ref (h 37)])), ((h 0), .inl (cy 1, 1720, .inl (fun _ => 0))), ((h 2), .inl (cy 0, 2, .inl (fun _ => 0))), ((h 3), .inl (cy 0, 2, .inl (fun _ => 0))), ((h 4), .inl (cy 0, 2, .inl (fun _ => 0))), ((h 5), .inl (cy 0, 2, .inl (f 0))), ((h 12), .inl (cy 2, 2, .inl (f 1))), ((h 7), .inl (cy 0, 1200, .inl (fun _ => 0))), ((h 8), .inl (cy 0, 1200, .inl (fun _ => 0))), ((h 20), .inl (cy 2, 8, .inl (fun _ => 0))), ((h 21), .inl (cy 0, 8, .inl (fun _ => 0))), ((h 32), .inl (cy 0, 3, .inl f_4)), ((h 33), .inl (cy 0, 120, .inl (fun _ => 0))), ((h 34), .inl (cy 0, 120, .inl (fun _ => 0))), ((h 35), .inl (cy 0, 24, .inl (fun _ => 0))), ((h 36), .inl (cy 2, 24, .inl (fun _ => 0))), ((h 37), .inl (cy 2, 3, .inl f_5))] H := hP
  replace hD : va_D A [(mo, .inr (12, [.ref (h 0), .ref (h 1), .int 0, .int 0, .int 0, .int (-1), .int 0, .int 0, .int 0, .int 0, .long 0, .ref (h 2), .ref (h 3), .ref (h 4), .ref (h 5), .ref (h 6), .ref (h 7), .ref (h 8), .ref (h 9), .ref (h 10), .ref (h 11), .ref (h 12), .ref (h 13), .ref (h 14), .ref (h 15), .ref (h 16), .ref (h 17), .ref (h 18), .ref (h 19), .int 0, .int 0, .int 0, .int 0, .int 0, .int 0, .ref (h 20), .ref (h 21), .int 0, .ref (h 22), .ref (h 23), .ref (h 24), .ref (h 25), .ref (h 26), .int 0, .int 0, .ref (h 27), .ref (h 28), .ref (h 29), .ref (h 30), .ref (h 31), .int 0, .int 0, .ref (h 32), .ref (h 33), .ref (h 34), .ref (h 35), .ref (h 36), .ref (h 37)])), ((h 0), .inl (cy 1, 1720, .inl (fun _ => 0))), ((h 2), .inl (cy 0, 2, .inl (fun _ => 0))), ((h 3), .inl (cy 0, 2, .inl (fun _ => 0))), ((h 4), .inl (cy 0, 2, .inl (fun _ => 0))), ((h 5), .inl (cy 0, 2, .inl (f 0))), ((h 12), .inl (cy 2, 2, .inl (f 1))), ((h 7), .inl (cy 0, 1200, .inl (fun _ => 0))), ((h 8), .inl (cy 0, 1200, .inl (fun _ => 0))), ((h 20), .inl (cy 2, 8, .inl (fun _ => 0))), ((h 21), .inl (cy 0, 8, .inl (fun _ => 0))), ((h 32), .inl (cy 0, 3, .inl f_4)), ((h 33), .inl (cy 0, 120, .inl (fun _ => 0))), ((h 34), .inl (cy 0, 120, .inl (fun _ => 0))), ((h 35), .inl (cy 0, 24, .inl (fun _ => 0))), ((h 36), .inl (cy 2, 24, .inl (fun _ => 0))), ((h 37), .inl (cy 2, 3, .inl f_5))] := hD
  refine lv_aload_n hx hb dX12_image_60 rfl (lv_at hl 1 rfl) ?_
  refine va_get (ci := 12) (v := .ref (h 34)) (C := RX12) (T := TX12) (N := 58) hx hb ht iX12 hown hK hP 0 rfl rfl 54 (by decide) (ht _ k_306) (fun _ h9 => h9) rfl dX12_image_61 ?_
  refine lv_bipush (v := 40) hx hb dX12_image_64 (by decide) ?_
  refine lv_iload_n hx hb dX12_image_66 rfl (lv_at hl 2 rfl) ?_
  refine lv_imul hx hb dX12_image_67 ?_
  refine ow_top 0 (by decide +kernel) ?_
  refine lv_iload_n hx hb dX12_image_68 rfl (lv_at hl 0 rfl) ?_
  refine lv_iadd hx hb dX12_image_69 ?_
  refine ow_top 2 (by decide +kernel) ?_
  refine lv_aload_n hx hb dX12_image_70 rfl (lv_at hl 1 rfl) ?_
  refine va_get (ci := 12) (v := .ref (h 8)) (C := RX12) (T := TX12) (N := 58) hx hb ht iX12 hown hK hP 0 rfl rfl 17 (by decide) (ht _ k_281) (fun _ h9 => h9) rfl dX12_image_71 ?_
  refine lv_sipush (v := 1120) hx hb dX12_image_74 (by decide) ?_
  refine lv_iload_n hx hb dX12_image_77 rfl (lv_at hl 0 rfl) ?_
  refine lv_iadd hx hb dX12_image_78 ?_
  refine ow_top 1122 (by decide +kernel) ?_
  refine va_iald hx hb hK hP 8 0 rfl rfl (in_lit (by decide +kernel)) dX12_image_79 ?_
  refine ow_top 0 rfl ?_
  refine ow_iastS hx hb hK hP hD hS 13 rfl (in_lit (by decide +kernel)) dX12_image_80 ?_
  clear hP hD hS
  try clear H locs
  intro H locs hP hD hS
  replace hP : va_P G vwCl [(mo, .inr (12, [.ref (h 0), .ref (h 1), .int 0, .int 0, .int 0, .int (-1), .int 0, .int 0, .int 0, .int 0, .long 0, .ref (h 2), .ref (h 3), .ref (h 4), .ref (h 5), .ref (h 6), .ref (h 7), .ref (h 8), .ref (h 9), .ref (h 10), .ref (h 11), .ref (h 12), .ref (h 13), .ref (h 14), .ref (h 15), .ref (h 16), .ref (h 17), .ref (h 18), .ref (h 19), .int 0, .int 0, .int 0, .int 0, .int 0, .int 0, .ref (h 20), .ref (h 21), .int 0, .ref (h 22), .ref (h 23), .ref (h 24), .ref (h 25), .ref (h 26), .int 0, .int 0, .ref (h 27), .ref (h 28), .ref (h 29), .ref (h 30), .ref (h 31), .int 0, .int 0, .ref (h 32), .ref (h 33), .ref (h 34), .ref (h 35), .ref (h 36), .ref (h 37)])), ((h 0), .inl (cy 1, 1720, .inl (fun _ => 0))), ((h 2), .inl (cy 0, 2, .inl (fun _ => 0))), ((h 3), .inl (cy 0, 2, .inl (fun _ => 0))), ((h 4), .inl (cy 0, 2, .inl (fun _ => 0))), ((h 5), .inl (cy 0, 2, .inl (f 0))), ((h 12), .inl (cy 2, 2, .inl (f 1))), ((h 7), .inl (cy 0, 1200, .inl (fun _ => 0))), ((h 8), .inl (cy 0, 1200, .inl (fun _ => 0))), ((h 20), .inl (cy 2, 8, .inl (fun _ => 0))), ((h 21), .inl (cy 0, 8, .inl (fun _ => 0))), ((h 32), .inl (cy 0, 3, .inl f_4)), ((h 33), .inl (cy 0, 120, .inl (fun _ => 0))), ((h 34), .inl (cy 0, 120, .inl (fun _ => 0))), ((h 35), .inl (cy 0, 24, .inl (fun _ => 0))), ((h 36), .inl (cy 2, 24, .inl (fun _ => 0))), ((h 37), .inl (cy 2, 3, .inl f_5))] H := hP
  replace hD : va_D A [(mo, .inr (12, [.ref (h 0), .ref (h 1), .int 0, .int 0, .int 0, .int (-1), .int 0, .int 0, .int 0, .int 0, .long 0, .ref (h 2), .ref (h 3), .ref (h 4), .ref (h 5), .ref (h 6), .ref (h 7), .ref (h 8), .ref (h 9), .ref (h 10), .ref (h 11), .ref (h 12), .ref (h 13), .ref (h 14), .ref (h 15), .ref (h 16), .ref (h 17), .ref (h 18), .ref (h 19), .int 0, .int 0, .int 0, .int 0, .int 0, .int 0, .ref (h 20), .ref (h 21), .int 0, .ref (h 22), .ref (h 23), .ref (h 24), .ref (h 25), .ref (h 26), .int 0, .int 0, .ref (h 27), .ref (h 28), .ref (h 29), .ref (h 30), .ref (h 31), .int 0, .int 0, .ref (h 32), .ref (h 33), .ref (h 34), .ref (h 35), .ref (h 36), .ref (h 37)])), ((h 0), .inl (cy 1, 1720, .inl (fun _ => 0))), ((h 2), .inl (cy 0, 2, .inl (fun _ => 0))), ((h 3), .inl (cy 0, 2, .inl (fun _ => 0))), ((h 4), .inl (cy 0, 2, .inl (fun _ => 0))), ((h 5), .inl (cy 0, 2, .inl (f 0))), ((h 12), .inl (cy 2, 2, .inl (f 1))), ((h 7), .inl (cy 0, 1200, .inl (fun _ => 0))), ((h 8), .inl (cy 0, 1200, .inl (fun _ => 0))), ((h 20), .inl (cy 2, 8, .inl (fun _ => 0))), ((h 21), .inl (cy 0, 8, .inl (fun _ => 0))), ((h 32), .inl (cy 0, 3, .inl f_4)), ((h 33), .inl (cy 0, 120, .inl (fun _ => 0))), ((h 34), .inl (cy 0, 120, .inl (fun _ => 0))), ((h 35), .inl (cy 0, 24, .inl (fun _ => 0))), ((h 36), .inl (cy 2, 24, .inl (fun _ => 0))), ((h 37), .inl (cy 2, 3, .inl f_5))] := hD
  refine lv_iinc (v := 3) (lv' := [(2, .int 3), (0, .ref mo), (1, .int 0)]) hx hb dX12_image_81 hl (k := 0) rfl (by decide) (by decide) rfl ?_
  clear hl
  try clear ls
  intro ls hl
  refine lv_goto (tgt := 33) hx hb dX12_image_84 (by decide) ?_
  refine lv_iload_n hx hb dX12_image_33 rfl (lv_at hl 0 rfl) ?_
  refine lv_bipush (v := 40) hx hb dX12_image_34 (by decide) ?_
  refine lv_icmp_ge (tgt := 87) hx hb dX12_image_36 (by decide) (fun c9 => absurd c9 (by decide)) (fun _ => ?_)
  refine lv_aload_n hx hb dX12_image_39 rfl (lv_at hl 1 rfl) ?_
  refine va_get (ci := 12) (v := .ref (h 33)) (C := RX12) (T := TX12) (N := 58) hx hb ht iX12 hown hK hP 0 rfl rfl 53 (by decide) (ht _ k_305) (fun _ h9 => h9) rfl dX12_image_40 ?_
  refine lv_bipush (v := 40) hx hb dX12_image_43 (by decide) ?_
  refine lv_iload_n hx hb dX12_image_45 rfl (lv_at hl 2 rfl) ?_
  refine lv_imul hx hb dX12_image_46 ?_
  refine ow_top 0 (by decide +kernel) ?_
  refine lv_iload_n hx hb dX12_image_47 rfl (lv_at hl 0 rfl) ?_
  refine lv_iadd hx hb dX12_image_48 ?_
  refine ow_top 3 (by decide +kernel) ?_
  refine lv_aload_n hx hb dX12_image_49 rfl (lv_at hl 1 rfl) ?_
  refine va_get (ci := 12) (v := .ref (h 7)) (C := RX12) (T := TX12) (N := 58) hx hb ht iX12 hown hK hP 0 rfl rfl 16 (by decide) (ht _ k_280) (fun _ h9 => h9) rfl dX12_image_50 ?_
  refine lv_sipush (v := 1120) hx hb dX12_image_53 (by decide) ?_
  refine lv_iload_n hx hb dX12_image_56 rfl (lv_at hl 0 rfl) ?_
  refine lv_iadd hx hb dX12_image_57 ?_
  refine ow_top 1123 (by decide +kernel) ?_
  refine va_iald hx hb hK hP 7 0 rfl rfl (in_lit (by decide +kernel)) dX12_image_58 ?_
  refine ow_top 0 rfl ?_
  refine ow_iastS hx hb hK hP hD hS 12 rfl (in_lit (by decide +kernel)) dX12_image_59 ?_
  clear hP hD hS
  try clear H locs
  intro H locs hP hD hS
  replace hP : va_P G vwCl [(mo, .inr (12, [.ref (h 0), .ref (h 1), .int 0, .int 0, .int 0, .int (-1), .int 0, .int 0, .int 0, .int 0, .long 0, .ref (h 2), .ref (h 3), .ref (h 4), .ref (h 5), .ref (h 6), .ref (h 7), .ref (h 8), .ref (h 9), .ref (h 10), .ref (h 11), .ref (h 12), .ref (h 13), .ref (h 14), .ref (h 15), .ref (h 16), .ref (h 17), .ref (h 18), .ref (h 19), .int 0, .int 0, .int 0, .int 0, .int 0, .int 0, .ref (h 20), .ref (h 21), .int 0, .ref (h 22), .ref (h 23), .ref (h 24), .ref (h 25), .ref (h 26), .int 0, .int 0, .ref (h 27), .ref (h 28), .ref (h 29), .ref (h 30), .ref (h 31), .int 0, .int 0, .ref (h 32), .ref (h 33), .ref (h 34), .ref (h 35), .ref (h 36), .ref (h 37)])), ((h 0), .inl (cy 1, 1720, .inl (fun _ => 0))), ((h 2), .inl (cy 0, 2, .inl (fun _ => 0))), ((h 3), .inl (cy 0, 2, .inl (fun _ => 0))), ((h 4), .inl (cy 0, 2, .inl (fun _ => 0))), ((h 5), .inl (cy 0, 2, .inl (f 0))), ((h 12), .inl (cy 2, 2, .inl (f 1))), ((h 7), .inl (cy 0, 1200, .inl (fun _ => 0))), ((h 8), .inl (cy 0, 1200, .inl (fun _ => 0))), ((h 20), .inl (cy 2, 8, .inl (fun _ => 0))), ((h 21), .inl (cy 0, 8, .inl (fun _ => 0))), ((h 32), .inl (cy 0, 3, .inl f_4)), ((h 33), .inl (cy 0, 120, .inl (fun _ => 0))), ((h 34), .inl (cy 0, 120, .inl (fun _ => 0))), ((h 35), .inl (cy 0, 24, .inl (fun _ => 0))), ((h 36), .inl (cy 2, 24, .inl (fun _ => 0))), ((h 37), .inl (cy 2, 3, .inl f_5))] H := hP
  replace hD : va_D A [(mo, .inr (12, [.ref (h 0), .ref (h 1), .int 0, .int 0, .int 0, .int (-1), .int 0, .int 0, .int 0, .int 0, .long 0, .ref (h 2), .ref (h 3), .ref (h 4), .ref (h 5), .ref (h 6), .ref (h 7), .ref (h 8), .ref (h 9), .ref (h 10), .ref (h 11), .ref (h 12), .ref (h 13), .ref (h 14), .ref (h 15), .ref (h 16), .ref (h 17), .ref (h 18), .ref (h 19), .int 0, .int 0, .int 0, .int 0, .int 0, .int 0, .ref (h 20), .ref (h 21), .int 0, .ref (h 22), .ref (h 23), .ref (h 24), .ref (h 25), .ref (h 26), .int 0, .int 0, .ref (h 27), .ref (h 28), .ref (h 29), .ref (h 30), .ref (h 31), .int 0, .int 0, .ref (h 32), .ref (h 33), .ref (h 34), .ref (h 35), .ref (h 36), .ref (h 37)])), ((h 0), .inl (cy 1, 1720, .inl (fun _ => 0))), ((h 2), .inl (cy 0, 2, .inl (fun _ => 0))), ((h 3), .inl (cy 0, 2, .inl (fun _ => 0))), ((h 4), .inl (cy 0, 2, .inl (fun _ => 0))), ((h 5), .inl (cy 0, 2, .inl (f 0))), ((h 12), .inl (cy 2, 2, .inl (f 1))), ((h 7), .inl (cy 0, 1200, .inl (fun _ => 0))), ((h 8), .inl (cy 0, 1200, .inl (fun _ => 0))), ((h 20), .inl (cy 2, 8, .inl (fun _ => 0))), ((h 21), .inl (cy 0, 8, .inl (fun _ => 0))), ((h 32), .inl (cy 0, 3, .inl f_4)), ((h 33), .inl (cy 0, 120, .inl (fun _ => 0))), ((h 34), .inl (cy 0, 120, .inl (fun _ => 0))), ((h 35), .inl (cy 0, 24, .inl (fun _ => 0))), ((h 36), .inl (cy 2, 24, .inl (fun _ => 0))), ((h 37), .inl (cy 2, 3, .inl f_5))] := hD
  refine lv_aload_n hx hb dX12_image_60 rfl (lv_at hl 1 rfl) ?_
  refine va_get (ci := 12) (v := .ref (h 34)) (C := RX12) (T := TX12) (N := 58) hx hb ht iX12 hown hK hP 0 rfl rfl 54 (by decide) (ht _ k_306) (fun _ h9 => h9) rfl dX12_image_61 ?_
  refine lv_bipush (v := 40) hx hb dX12_image_64 (by decide) ?_
  refine lv_iload_n hx hb dX12_image_66 rfl (lv_at hl 2 rfl) ?_
  refine lv_imul hx hb dX12_image_67 ?_
  refine ow_top 0 (by decide +kernel) ?_
  refine lv_iload_n hx hb dX12_image_68 rfl (lv_at hl 0 rfl) ?_
  refine lv_iadd hx hb dX12_image_69 ?_
  refine ow_top 3 (by decide +kernel) ?_
  refine lv_aload_n hx hb dX12_image_70 rfl (lv_at hl 1 rfl) ?_
  refine va_get (ci := 12) (v := .ref (h 8)) (C := RX12) (T := TX12) (N := 58) hx hb ht iX12 hown hK hP 0 rfl rfl 17 (by decide) (ht _ k_281) (fun _ h9 => h9) rfl dX12_image_71 ?_
  refine lv_sipush (v := 1120) hx hb dX12_image_74 (by decide) ?_
  refine lv_iload_n hx hb dX12_image_77 rfl (lv_at hl 0 rfl) ?_
  refine lv_iadd hx hb dX12_image_78 ?_
  refine ow_top 1123 (by decide +kernel) ?_
  refine va_iald hx hb hK hP 8 0 rfl rfl (in_lit (by decide +kernel)) dX12_image_79 ?_
  refine ow_top 0 rfl ?_
  refine ow_iastS hx hb hK hP hD hS 13 rfl (in_lit (by decide +kernel)) dX12_image_80 ?_
  clear hP hD hS
  try clear H locs
  intro H locs hP hD hS
  replace hP : va_P G vwCl [(mo, .inr (12, [.ref (h 0), .ref (h 1), .int 0, .int 0, .int 0, .int (-1), .int 0, .int 0, .int 0, .int 0, .long 0, .ref (h 2), .ref (h 3), .ref (h 4), .ref (h 5), .ref (h 6), .ref (h 7), .ref (h 8), .ref (h 9), .ref (h 10), .ref (h 11), .ref (h 12), .ref (h 13), .ref (h 14), .ref (h 15), .ref (h 16), .ref (h 17), .ref (h 18), .ref (h 19), .int 0, .int 0, .int 0, .int 0, .int 0, .int 0, .ref (h 20), .ref (h 21), .int 0, .ref (h 22), .ref (h 23), .ref (h 24), .ref (h 25), .ref (h 26), .int 0, .int 0, .ref (h 27), .ref (h 28), .ref (h 29), .ref (h 30), .ref (h 31), .int 0, .int 0, .ref (h 32), .ref (h 33), .ref (h 34), .ref (h 35), .ref (h 36), .ref (h 37)])), ((h 0), .inl (cy 1, 1720, .inl (fun _ => 0))), ((h 2), .inl (cy 0, 2, .inl (fun _ => 0))), ((h 3), .inl (cy 0, 2, .inl (fun _ => 0))), ((h 4), .inl (cy 0, 2, .inl (fun _ => 0))), ((h 5), .inl (cy 0, 2, .inl (f 0))), ((h 12), .inl (cy 2, 2, .inl (f 1))), ((h 7), .inl (cy 0, 1200, .inl (fun _ => 0))), ((h 8), .inl (cy 0, 1200, .inl (fun _ => 0))), ((h 20), .inl (cy 2, 8, .inl (fun _ => 0))), ((h 21), .inl (cy 0, 8, .inl (fun _ => 0))), ((h 32), .inl (cy 0, 3, .inl f_4)), ((h 33), .inl (cy 0, 120, .inl (fun _ => 0))), ((h 34), .inl (cy 0, 120, .inl (fun _ => 0))), ((h 35), .inl (cy 0, 24, .inl (fun _ => 0))), ((h 36), .inl (cy 2, 24, .inl (fun _ => 0))), ((h 37), .inl (cy 2, 3, .inl f_5))] H := hP
  replace hD : va_D A [(mo, .inr (12, [.ref (h 0), .ref (h 1), .int 0, .int 0, .int 0, .int (-1), .int 0, .int 0, .int 0, .int 0, .long 0, .ref (h 2), .ref (h 3), .ref (h 4), .ref (h 5), .ref (h 6), .ref (h 7), .ref (h 8), .ref (h 9), .ref (h 10), .ref (h 11), .ref (h 12), .ref (h 13), .ref (h 14), .ref (h 15), .ref (h 16), .ref (h 17), .ref (h 18), .ref (h 19), .int 0, .int 0, .int 0, .int 0, .int 0, .int 0, .ref (h 20), .ref (h 21), .int 0, .ref (h 22), .ref (h 23), .ref (h 24), .ref (h 25), .ref (h 26), .int 0, .int 0, .ref (h 27), .ref (h 28), .ref (h 29), .ref (h 30), .ref (h 31), .int 0, .int 0, .ref (h 32), .ref (h 33), .ref (h 34), .ref (h 35), .ref (h 36), .ref (h 37)])), ((h 0), .inl (cy 1, 1720, .inl (fun _ => 0))), ((h 2), .inl (cy 0, 2, .inl (fun _ => 0))), ((h 3), .inl (cy 0, 2, .inl (fun _ => 0))), ((h 4), .inl (cy 0, 2, .inl (fun _ => 0))), ((h 5), .inl (cy 0, 2, .inl (f 0))), ((h 12), .inl (cy 2, 2, .inl (f 1))), ((h 7), .inl (cy 0, 1200, .inl (fun _ => 0))), ((h 8), .inl (cy 0, 1200, .inl (fun _ => 0))), ((h 20), .inl (cy 2, 8, .inl (fun _ => 0))), ((h 21), .inl (cy 0, 8, .inl (fun _ => 0))), ((h 32), .inl (cy 0, 3, .inl f_4)), ((h 33), .inl (cy 0, 120, .inl (fun _ => 0))), ((h 34), .inl (cy 0, 120, .inl (fun _ => 0))), ((h 35), .inl (cy 0, 24, .inl (fun _ => 0))), ((h 36), .inl (cy 2, 24, .inl (fun _ => 0))), ((h 37), .inl (cy 2, 3, .inl f_5))] := hD
  refine lv_iinc (v := 4) (lv' := [(2, .int 4), (0, .ref mo), (1, .int 0)]) hx hb dX12_image_81 hl (k := 0) rfl (by decide) (by decide) rfl ?_
  clear hl
  try clear ls
  intro ls hl
  refine lv_goto (tgt := 33) hx hb dX12_image_84 (by decide) ?_
  refine lv_iload_n hx hb dX12_image_33 rfl (lv_at hl 0 rfl) ?_
  refine lv_bipush (v := 40) hx hb dX12_image_34 (by decide) ?_
  refine lv_icmp_ge (tgt := 87) hx hb dX12_image_36 (by decide) (fun c9 => absurd c9 (by decide)) (fun _ => ?_)
  refine lv_aload_n hx hb dX12_image_39 rfl (lv_at hl 1 rfl) ?_
  refine va_get (ci := 12) (v := .ref (h 33)) (C := RX12) (T := TX12) (N := 58) hx hb ht iX12 hown hK hP 0 rfl rfl 53 (by decide) (ht _ k_305) (fun _ h9 => h9) rfl dX12_image_40 ?_
  refine lv_bipush (v := 40) hx hb dX12_image_43 (by decide) ?_
  refine lv_iload_n hx hb dX12_image_45 rfl (lv_at hl 2 rfl) ?_
  refine lv_imul hx hb dX12_image_46 ?_
  refine ow_top 0 (by decide +kernel) ?_
  refine lv_iload_n hx hb dX12_image_47 rfl (lv_at hl 0 rfl) ?_
  refine lv_iadd hx hb dX12_image_48 ?_
  refine ow_top 4 (by decide +kernel) ?_
  refine lv_aload_n hx hb dX12_image_49 rfl (lv_at hl 1 rfl) ?_
  refine va_get (ci := 12) (v := .ref (h 7)) (C := RX12) (T := TX12) (N := 58) hx hb ht iX12 hown hK hP 0 rfl rfl 16 (by decide) (ht _ k_280) (fun _ h9 => h9) rfl dX12_image_50 ?_
  refine lv_sipush (v := 1120) hx hb dX12_image_53 (by decide) ?_
  refine lv_iload_n hx hb dX12_image_56 rfl (lv_at hl 0 rfl) ?_
  refine lv_iadd hx hb dX12_image_57 ?_
  refine ow_top 1124 (by decide +kernel) ?_
  refine va_iald hx hb hK hP 7 0 rfl rfl (in_lit (by decide +kernel)) dX12_image_58 ?_
  refine ow_top 0 rfl ?_
  refine ow_iastS hx hb hK hP hD hS 12 rfl (in_lit (by decide +kernel)) dX12_image_59 ?_
  clear hP hD hS
  try clear H locs
  intro H locs hP hD hS
  replace hP : va_P G vwCl [(mo, .inr (12, [.ref (h 0), .ref (h 1), .int 0, .int 0, .int 0, .int (-1), .int 0, .int 0, .int 0, .int 0, .long 0, .ref (h 2), .ref (h 3), .ref (h 4), .ref (h 5), .ref (h 6), .ref (h 7), .ref (h 8), .ref (h 9), .ref (h 10), .ref (h 11), .ref (h 12), .ref (h 13), .ref (h 14), .ref (h 15), .ref (h 16), .ref (h 17), .ref (h 18), .ref (h 19), .int 0, .int 0, .int 0, .int 0, .int 0, .int 0, .ref (h 20), .ref (h 21), .int 0, .ref (h 22), .ref (h 23), .ref (h 24), .ref (h 25), .ref (h 26), .int 0, .int 0, .ref (h 27), .ref (h 28), .ref (h 29), .ref (h 30), .ref (h 31), .int 0, .int 0, .ref (h 32), .ref (h 33), .ref (h 34), .ref (h 35), .ref (h 36), .ref (h 37)])), ((h 0), .inl (cy 1, 1720, .inl (fun _ => 0))), ((h 2), .inl (cy 0, 2, .inl (fun _ => 0))), ((h 3), .inl (cy 0, 2, .inl (fun _ => 0))), ((h 4), .inl (cy 0, 2, .inl (fun _ => 0))), ((h 5), .inl (cy 0, 2, .inl (f 0))), ((h 12), .inl (cy 2, 2, .inl (f 1))), ((h 7), .inl (cy 0, 1200, .inl (fun _ => 0))), ((h 8), .inl (cy 0, 1200, .inl (fun _ => 0))), ((h 20), .inl (cy 2, 8, .inl (fun _ => 0))), ((h 21), .inl (cy 0, 8, .inl (fun _ => 0))), ((h 32), .inl (cy 0, 3, .inl f_4)), ((h 33), .inl (cy 0, 120, .inl (fun _ => 0))), ((h 34), .inl (cy 0, 120, .inl (fun _ => 0))), ((h 35), .inl (cy 0, 24, .inl (fun _ => 0))), ((h 36), .inl (cy 2, 24, .inl (fun _ => 0))), ((h 37), .inl (cy 2, 3, .inl f_5))] H := hP
  replace hD : va_D A [(mo, .inr (12, [.ref (h 0), .ref (h 1), .int 0, .int 0, .int 0, .int (-1), .int 0, .int 0, .int 0, .int 0, .long 0, .ref (h 2), .ref (h 3), .ref (h 4), .ref (h 5), .ref (h 6), .ref (h 7), .ref (h 8), .ref (h 9), .ref (h 10), .ref (h 11), .ref (h 12), .ref (h 13), .ref (h 14), .ref (h 15), .ref (h 16), .ref (h 17), .ref (h 18), .ref (h 19), .int 0, .int 0, .int 0, .int 0, .int 0, .int 0, .ref (h 20), .ref (h 21), .int 0, .ref (h 22), .ref (h 23), .ref (h 24), .ref (h 25), .ref (h 26), .int 0, .int 0, .ref (h 27), .ref (h 28), .ref (h 29), .ref (h 30), .ref (h 31), .int 0, .int 0, .ref (h 32), .ref (h 33), .ref (h 34), .ref (h 35), .ref (h 36), .ref (h 37)])), ((h 0), .inl (cy 1, 1720, .inl (fun _ => 0))), ((h 2), .inl (cy 0, 2, .inl (fun _ => 0))), ((h 3), .inl (cy 0, 2, .inl (fun _ => 0))), ((h 4), .inl (cy 0, 2, .inl (fun _ => 0))), ((h 5), .inl (cy 0, 2, .inl (f 0))), ((h 12), .inl (cy 2, 2, .inl (f 1))), ((h 7), .inl (cy 0, 1200, .inl (fun _ => 0))), ((h 8), .inl (cy 0, 1200, .inl (fun _ => 0))), ((h 20), .inl (cy 2, 8, .inl (fun _ => 0))), ((h 21), .inl (cy 0, 8, .inl (fun _ => 0))), ((h 32), .inl (cy 0, 3, .inl f_4)), ((h 33), .inl (cy 0, 120, .inl (fun _ => 0))), ((h 34), .inl (cy 0, 120, .inl (fun _ => 0))), ((h 35), .inl (cy 0, 24, .inl (fun _ => 0))), ((h 36), .inl (cy 2, 24, .inl (fun _ => 0))), ((h 37), .inl (cy 2, 3, .inl f_5))] := hD
  refine lv_aload_n hx hb dX12_image_60 rfl (lv_at hl 1 rfl) ?_
  refine va_get (ci := 12) (v := .ref (h 34)) (C := RX12) (T := TX12) (N := 58) hx hb ht iX12 hown hK hP 0 rfl rfl 54 (by decide) (ht _ k_306) (fun _ h9 => h9) rfl dX12_image_61 ?_
  refine lv_bipush (v := 40) hx hb dX12_image_64 (by decide) ?_
  refine lv_iload_n hx hb dX12_image_66 rfl (lv_at hl 2 rfl) ?_
  refine lv_imul hx hb dX12_image_67 ?_
  refine ow_top 0 (by decide +kernel) ?_
  refine lv_iload_n hx hb dX12_image_68 rfl (lv_at hl 0 rfl) ?_
  refine lv_iadd hx hb dX12_image_69 ?_
  refine ow_top 4 (by decide +kernel) ?_
  refine lv_aload_n hx hb dX12_image_70 rfl (lv_at hl 1 rfl) ?_
  refine va_get (ci := 12) (v := .ref (h 8)) (C := RX12) (T := TX12) (N := 58) hx hb ht iX12 hown hK hP 0 rfl rfl 17 (by decide) (ht _ k_281) (fun _ h9 => h9) rfl dX12_image_71 ?_
  refine lv_sipush (v := 1120) hx hb dX12_image_74 (by decide) ?_
  refine lv_iload_n hx hb dX12_image_77 rfl (lv_at hl 0 rfl) ?_
  refine lv_iadd hx hb dX12_image_78 ?_
  refine ow_top 1124 (by decide +kernel) ?_
  refine va_iald hx hb hK hP 8 0 rfl rfl (in_lit (by decide +kernel)) dX12_image_79 ?_
  refine ow_top 0 rfl ?_
  refine ow_iastS hx hb hK hP hD hS 13 rfl (in_lit (by decide +kernel)) dX12_image_80 ?_
  clear hP hD hS
  try clear H locs
  intro H locs hP hD hS
  replace hP : va_P G vwCl [(mo, .inr (12, [.ref (h 0), .ref (h 1), .int 0, .int 0, .int 0, .int (-1), .int 0, .int 0, .int 0, .int 0, .long 0, .ref (h 2), .ref (h 3), .ref (h 4), .ref (h 5), .ref (h 6), .ref (h 7), .ref (h 8), .ref (h 9), .ref (h 10), .ref (h 11), .ref (h 12), .ref (h 13), .ref (h 14), .ref (h 15), .ref (h 16), .ref (h 17), .ref (h 18), .ref (h 19), .int 0, .int 0, .int 0, .int 0, .int 0, .int 0, .ref (h 20), .ref (h 21), .int 0, .ref (h 22), .ref (h 23), .ref (h 24), .ref (h 25), .ref (h 26), .int 0, .int 0, .ref (h 27), .ref (h 28), .ref (h 29), .ref (h 30), .ref (h 31), .int 0, .int 0, .ref (h 32), .ref (h 33), .ref (h 34), .ref (h 35), .ref (h 36), .ref (h 37)])), ((h 0), .inl (cy 1, 1720, .inl (fun _ => 0))), ((h 2), .inl (cy 0, 2, .inl (fun _ => 0))), ((h 3), .inl (cy 0, 2, .inl (fun _ => 0))), ((h 4), .inl (cy 0, 2, .inl (fun _ => 0))), ((h 5), .inl (cy 0, 2, .inl (f 0))), ((h 12), .inl (cy 2, 2, .inl (f 1))), ((h 7), .inl (cy 0, 1200, .inl (fun _ => 0))), ((h 8), .inl (cy 0, 1200, .inl (fun _ => 0))), ((h 20), .inl (cy 2, 8, .inl (fun _ => 0))), ((h 21), .inl (cy 0, 8, .inl (fun _ => 0))), ((h 32), .inl (cy 0, 3, .inl f_4)), ((h 33), .inl (cy 0, 120, .inl (fun _ => 0))), ((h 34), .inl (cy 0, 120, .inl (fun _ => 0))), ((h 35), .inl (cy 0, 24, .inl (fun _ => 0))), ((h 36), .inl (cy 2, 24, .inl (fun _ => 0))), ((h 37), .inl (cy 2, 3, .inl f_5))] H := hP
  replace hD : va_D A [(mo, .inr (12, [.ref (h 0), .ref (h 1), .int 0, .int 0, .int 0, .int (-1), .int 0, .int 0, .int 0, .int 0, .long 0, .ref (h 2), .ref (h 3), .ref (h 4), .ref (h 5), .ref (h 6), .ref (h 7), .ref (h 8), .ref (h 9), .ref (h 10), .ref (h 11), .ref (h 12), .ref (h 13), .ref (h 14), .ref (h 15), .ref (h 16), .ref (h 17), .ref (h 18), .ref (h 19), .int 0, .int 0, .int 0, .int 0, .int 0, .int 0, .ref (h 20), .ref (h 21), .int 0, .ref (h 22), .ref (h 23), .ref (h 24), .ref (h 25), .ref (h 26), .int 0, .int 0, .ref (h 27), .ref (h 28), .ref (h 29), .ref (h 30), .ref (h 31), .int 0, .int 0, .ref (h 32), .ref (h 33), .ref (h 34), .ref (h 35), .ref (h 36), .ref (h 37)])), ((h 0), .inl (cy 1, 1720, .inl (fun _ => 0))), ((h 2), .inl (cy 0, 2, .inl (fun _ => 0))), ((h 3), .inl (cy 0, 2, .inl (fun _ => 0))), ((h 4), .inl (cy 0, 2, .inl (fun _ => 0))), ((h 5), .inl (cy 0, 2, .inl (f 0))), ((h 12), .inl (cy 2, 2, .inl (f 1))), ((h 7), .inl (cy 0, 1200, .inl (fun _ => 0))), ((h 8), .inl (cy 0, 1200, .inl (fun _ => 0))), ((h 20), .inl (cy 2, 8, .inl (fun _ => 0))), ((h 21), .inl (cy 0, 8, .inl (fun _ => 0))), ((h 32), .inl (cy 0, 3, .inl f_4)), ((h 33), .inl (cy 0, 120, .inl (fun _ => 0))), ((h 34), .inl (cy 0, 120, .inl (fun _ => 0))), ((h 35), .inl (cy 0, 24, .inl (fun _ => 0))), ((h 36), .inl (cy 2, 24, .inl (fun _ => 0))), ((h 37), .inl (cy 2, 3, .inl f_5))] := hD
  refine lv_iinc (v := 5) (lv' := [(2, .int 5), (0, .ref mo), (1, .int 0)]) hx hb dX12_image_81 hl (k := 0) rfl (by decide) (by decide) rfl ?_
  clear hl
  try clear ls
  intro ls hl
  refine lv_goto (tgt := 33) hx hb dX12_image_84 (by decide) ?_
  refine lv_iload_n hx hb dX12_image_33 rfl (lv_at hl 0 rfl) ?_
  refine lv_bipush (v := 40) hx hb dX12_image_34 (by decide) ?_
  refine lv_icmp_ge (tgt := 87) hx hb dX12_image_36 (by decide) (fun c9 => absurd c9 (by decide)) (fun _ => ?_)
  refine lv_aload_n hx hb dX12_image_39 rfl (lv_at hl 1 rfl) ?_
  refine va_get (ci := 12) (v := .ref (h 33)) (C := RX12) (T := TX12) (N := 58) hx hb ht iX12 hown hK hP 0 rfl rfl 53 (by decide) (ht _ k_305) (fun _ h9 => h9) rfl dX12_image_40 ?_
  refine lv_bipush (v := 40) hx hb dX12_image_43 (by decide) ?_
  refine lv_iload_n hx hb dX12_image_45 rfl (lv_at hl 2 rfl) ?_
  refine lv_imul hx hb dX12_image_46 ?_
  refine ow_top 0 (by decide +kernel) ?_
  refine lv_iload_n hx hb dX12_image_47 rfl (lv_at hl 0 rfl) ?_
  refine lv_iadd hx hb dX12_image_48 ?_
  refine ow_top 5 (by decide +kernel) ?_
  refine lv_aload_n hx hb dX12_image_49 rfl (lv_at hl 1 rfl) ?_
  refine va_get (ci := 12) (v := .ref (h 7)) (C := RX12) (T := TX12) (N := 58) hx hb ht iX12 hown hK hP 0 rfl rfl 16 (by decide) (ht _ k_280) (fun _ h9 => h9) rfl dX12_image_50 ?_
  refine lv_sipush (v := 1120) hx hb dX12_image_53 (by decide) ?_
  refine lv_iload_n hx hb dX12_image_56 rfl (lv_at hl 0 rfl) ?_
  refine lv_iadd hx hb dX12_image_57 ?_
  refine ow_top 1125 (by decide +kernel) ?_
  refine va_iald hx hb hK hP 7 0 rfl rfl (in_lit (by decide +kernel)) dX12_image_58 ?_
  refine ow_top 0 rfl ?_
  refine ow_iastS hx hb hK hP hD hS 12 rfl (in_lit (by decide +kernel)) dX12_image_59 ?_
  clear hP hD hS
  try clear H locs
  intro H locs hP hD hS
  replace hP : va_P G vwCl [(mo, .inr (12, [.ref (h 0), .ref (h 1), .int 0, .int 0, .int 0, .int (-1), .int 0, .int 0, .int 0, .int 0, .long 0, .ref (h 2), .ref (h 3), .ref (h 4), .ref (h 5), .ref (h 6), .ref (h 7), .ref (h 8), .ref (h 9), .ref (h 10), .ref (h 11), .ref (h 12), .ref (h 13), .ref (h 14), .ref (h 15), .ref (h 16), .ref (h 17), .ref (h 18), .ref (h 19), .int 0, .int 0, .int 0, .int 0, .int 0, .int 0, .ref (h 20), .ref (h 21), .int 0, .ref (h 22), .ref (h 23), .ref (h 24), .ref (h 25), .ref (h 26), .int 0, .int 0, .ref (h 27), .ref (h 28), .ref (h 29), .ref (h 30), .ref (h 31), .int 0, .int 0, .ref (h 32), .ref (h 33), .ref (h 34), .ref (h 35), .ref (h 36), .ref (h 37)])), ((h 0), .inl (cy 1, 1720, .inl (fun _ => 0))), ((h 2), .inl (cy 0, 2, .inl (fun _ => 0))), ((h 3), .inl (cy 0, 2, .inl (fun _ => 0))), ((h 4), .inl (cy 0, 2, .inl (fun _ => 0))), ((h 5), .inl (cy 0, 2, .inl (f 0))), ((h 12), .inl (cy 2, 2, .inl (f 1))), ((h 7), .inl (cy 0, 1200, .inl (fun _ => 0))), ((h 8), .inl (cy 0, 1200, .inl (fun _ => 0))), ((h 20), .inl (cy 2, 8, .inl (fun _ => 0))), ((h 21), .inl (cy 0, 8, .inl (fun _ => 0))), ((h 32), .inl (cy 0, 3, .inl f_4)), ((h 33), .inl (cy 0, 120, .inl (fun _ => 0))), ((h 34), .inl (cy 0, 120, .inl (fun _ => 0))), ((h 35), .inl (cy 0, 24, .inl (fun _ => 0))), ((h 36), .inl (cy 2, 24, .inl (fun _ => 0))), ((h 37), .inl (cy 2, 3, .inl f_5))] H := hP
  replace hD : va_D A [(mo, .inr (12, [.ref (h 0), .ref (h 1), .int 0, .int 0, .int 0, .int (-1), .int 0, .int 0, .int 0, .int 0, .long 0, .ref (h 2), .ref (h 3), .ref (h 4), .ref (h 5), .ref (h 6), .ref (h 7), .ref (h 8), .ref (h 9), .ref (h 10), .ref (h 11), .ref (h 12), .ref (h 13), .ref (h 14), .ref (h 15), .ref (h 16), .ref (h 17), .ref (h 18), .ref (h 19), .int 0, .int 0, .int 0, .int 0, .int 0, .int 0, .ref (h 20), .ref (h 21), .int 0, .ref (h 22), .ref (h 23), .ref (h 24), .ref (h 25), .ref (h 26), .int 0, .int 0, .ref (h 27), .ref (h 28), .ref (h 29), .ref (h 30), .ref (h 31), .int 0, .int 0, .ref (h 32), .ref (h 33), .ref (h 34), .ref (h 35), .ref (h 36), .ref (h 37)])), ((h 0), .inl (cy 1, 1720, .inl (fun _ => 0))), ((h 2), .inl (cy 0, 2, .inl (fun _ => 0))), ((h 3), .inl (cy 0, 2, .inl (fun _ => 0))), ((h 4), .inl (cy 0, 2, .inl (fun _ => 0))), ((h 5), .inl (cy 0, 2, .inl (f 0))), ((h 12), .inl (cy 2, 2, .inl (f 1))), ((h 7), .inl (cy 0, 1200, .inl (fun _ => 0))), ((h 8), .inl (cy 0, 1200, .inl (fun _ => 0))), ((h 20), .inl (cy 2, 8, .inl (fun _ => 0))), ((h 21), .inl (cy 0, 8, .inl (fun _ => 0))), ((h 32), .inl (cy 0, 3, .inl f_4)), ((h 33), .inl (cy 0, 120, .inl (fun _ => 0))), ((h 34), .inl (cy 0, 120, .inl (fun _ => 0))), ((h 35), .inl (cy 0, 24, .inl (fun _ => 0))), ((h 36), .inl (cy 2, 24, .inl (fun _ => 0))), ((h 37), .inl (cy 2, 3, .inl f_5))] := hD
  refine lv_aload_n hx hb dX12_image_60 rfl (lv_at hl 1 rfl) ?_
  refine va_get (ci := 12) (v := .ref (h 34)) (C := RX12) (T := TX12) (N := 58) hx hb ht iX12 hown hK hP 0 rfl rfl 54 (by decide) (ht _ k_306) (fun _ h9 => h9) rfl dX12_image_61 ?_
  refine lv_bipush (v := 40) hx hb dX12_image_64 (by decide) ?_
  refine lv_iload_n hx hb dX12_image_66 rfl (lv_at hl 2 rfl) ?_
  refine lv_imul hx hb dX12_image_67 ?_
  refine ow_top 0 (by decide +kernel) ?_
  refine lv_iload_n hx hb dX12_image_68 rfl (lv_at hl 0 rfl) ?_
  refine lv_iadd hx hb dX12_image_69 ?_
  refine ow_top 5 (by decide +kernel) ?_
  refine lv_aload_n hx hb dX12_image_70 rfl (lv_at hl 1 rfl) ?_
  refine va_get (ci := 12) (v := .ref (h 8)) (C := RX12) (T := TX12) (N := 58) hx hb ht iX12 hown hK hP 0 rfl rfl 17 (by decide) (ht _ k_281) (fun _ h9 => h9) rfl dX12_image_71 ?_
  refine lv_sipush (v := 1120) hx hb dX12_image_74 (by decide) ?_
  refine lv_iload_n hx hb dX12_image_77 rfl (lv_at hl 0 rfl) ?_
  refine lv_iadd hx hb dX12_image_78 ?_
  refine ow_top 1125 (by decide +kernel) ?_
  refine va_iald hx hb hK hP 8 0 rfl rfl (in_lit (by decide +kernel)) dX12_image_79 ?_
  refine ow_top 0 rfl ?_
  refine ow_iastS hx hb hK hP hD hS 13 rfl (in_lit (by decide +kernel)) dX12_image_80 ?_
  clear hP hD hS
  try clear H locs
  intro H locs hP hD hS
  replace hP : va_P G vwCl [(mo, .inr (12, [.ref (h 0), .ref (h 1), .int 0, .int 0, .int 0, .int (-1), .int 0, .int 0, .int 0, .int 0, .long 0, .ref (h 2), .ref (h 3), .ref (h 4), .ref (h 5), .ref (h 6), .ref (h 7), .ref (h 8), .ref (h 9), .ref (h 10), .ref (h 11), .ref (h 12), .ref (h 13), .ref (h 14), .ref (h 15), .ref (h 16), .ref (h 17), .ref (h 18), .ref (h 19), .int 0, .int 0, .int 0, .int 0, .int 0, .int 0, .ref (h 20), .ref (h 21), .int 0, .ref (h 22), .ref (h 23), .ref (h 24), .ref (h 25), .ref (h 26), .int 0, .int 0, .ref (h 27), .ref (h 28), .ref (h 29), .ref (h 30), .ref (h 31), .int 0, .int 0, .ref (h 32), .ref (h 33), .ref (h 34), .ref (h 35), .ref (h 36), .ref (h 37)])), ((h 0), .inl (cy 1, 1720, .inl (fun _ => 0))), ((h 2), .inl (cy 0, 2, .inl (fun _ => 0))), ((h 3), .inl (cy 0, 2, .inl (fun _ => 0))), ((h 4), .inl (cy 0, 2, .inl (fun _ => 0))), ((h 5), .inl (cy 0, 2, .inl (f 0))), ((h 12), .inl (cy 2, 2, .inl (f 1))), ((h 7), .inl (cy 0, 1200, .inl (fun _ => 0))), ((h 8), .inl (cy 0, 1200, .inl (fun _ => 0))), ((h 20), .inl (cy 2, 8, .inl (fun _ => 0))), ((h 21), .inl (cy 0, 8, .inl (fun _ => 0))), ((h 32), .inl (cy 0, 3, .inl f_4)), ((h 33), .inl (cy 0, 120, .inl (fun _ => 0))), ((h 34), .inl (cy 0, 120, .inl (fun _ => 0))), ((h 35), .inl (cy 0, 24, .inl (fun _ => 0))), ((h 36), .inl (cy 2, 24, .inl (fun _ => 0))), ((h 37), .inl (cy 2, 3, .inl f_5))] H := hP
  replace hD : va_D A [(mo, .inr (12, [.ref (h 0), .ref (h 1), .int 0, .int 0, .int 0, .int (-1), .int 0, .int 0, .int 0, .int 0, .long 0, .ref (h 2), .ref (h 3), .ref (h 4), .ref (h 5), .ref (h 6), .ref (h 7), .ref (h 8), .ref (h 9), .ref (h 10), .ref (h 11), .ref (h 12), .ref (h 13), .ref (h 14), .ref (h 15), .ref (h 16), .ref (h 17), .ref (h 18), .ref (h 19), .int 0, .int 0, .int 0, .int 0, .int 0, .int 0, .ref (h 20), .ref (h 21), .int 0, .ref (h 22), .ref (h 23), .ref (h 24), .ref (h 25), .ref (h 26), .int 0, .int 0, .ref (h 27), .ref (h 28), .ref (h 29), .ref (h 30), .ref (h 31), .int 0, .int 0, .ref (h 32), .ref (h 33), .ref (h 34), .ref (h 35), .ref (h 36), .ref (h 37)])), ((h 0), .inl (cy 1, 1720, .inl (fun _ => 0))), ((h 2), .inl (cy 0, 2, .inl (fun _ => 0))), ((h 3), .inl (cy 0, 2, .inl (fun _ => 0))), ((h 4), .inl (cy 0, 2, .inl (fun _ => 0))), ((h 5), .inl (cy 0, 2, .inl (f 0))), ((h 12), .inl (cy 2, 2, .inl (f 1))), ((h 7), .inl (cy 0, 1200, .inl (fun _ => 0))), ((h 8), .inl (cy 0, 1200, .inl (fun _ => 0))), ((h 20), .inl (cy 2, 8, .inl (fun _ => 0))), ((h 21), .inl (cy 0, 8, .inl (fun _ => 0))), ((h 32), .inl (cy 0, 3, .inl f_4)), ((h 33), .inl (cy 0, 120, .inl (fun _ => 0))), ((h 34), .inl (cy 0, 120, .inl (fun _ => 0))), ((h 35), .inl (cy 0, 24, .inl (fun _ => 0))), ((h 36), .inl (cy 2, 24, .inl (fun _ => 0))), ((h 37), .inl (cy 2, 3, .inl f_5))] := hD
  refine lv_iinc (v := 6) (lv' := [(2, .int 6), (0, .ref mo), (1, .int 0)]) hx hb dX12_image_81 hl (k := 0) rfl (by decide) (by decide) rfl ?_
  clear hl
  try clear ls
  intro ls hl
  refine lv_goto (tgt := 33) hx hb dX12_image_84 (by decide) ?_
  refine lv_iload_n hx hb dX12_image_33 rfl (lv_at hl 0 rfl) ?_
  refine lv_bipush (v := 40) hx hb dX12_image_34 (by decide) ?_
  refine lv_icmp_ge (tgt := 87) hx hb dX12_image_36 (by decide) (fun c9 => absurd c9 (by decide)) (fun _ => ?_)
  refine lv_aload_n hx hb dX12_image_39 rfl (lv_at hl 1 rfl) ?_
  refine va_get (ci := 12) (v := .ref (h 33)) (C := RX12) (T := TX12) (N := 58) hx hb ht iX12 hown hK hP 0 rfl rfl 53 (by decide) (ht _ k_305) (fun _ h9 => h9) rfl dX12_image_40 ?_
  refine lv_bipush (v := 40) hx hb dX12_image_43 (by decide) ?_
  refine lv_iload_n hx hb dX12_image_45 rfl (lv_at hl 2 rfl) ?_
  refine lv_imul hx hb dX12_image_46 ?_
  refine ow_top 0 (by decide +kernel) ?_
  refine lv_iload_n hx hb dX12_image_47 rfl (lv_at hl 0 rfl) ?_
  refine lv_iadd hx hb dX12_image_48 ?_
  refine ow_top 6 (by decide +kernel) ?_
  refine lv_aload_n hx hb dX12_image_49 rfl (lv_at hl 1 rfl) ?_
  refine va_get (ci := 12) (v := .ref (h 7)) (C := RX12) (T := TX12) (N := 58) hx hb ht iX12 hown hK hP 0 rfl rfl 16 (by decide) (ht _ k_280) (fun _ h9 => h9) rfl dX12_image_50 ?_
  refine lv_sipush (v := 1120) hx hb dX12_image_53 (by decide) ?_
  refine lv_iload_n hx hb dX12_image_56 rfl (lv_at hl 0 rfl) ?_
  refine lv_iadd hx hb dX12_image_57 ?_
  refine ow_top 1126 (by decide +kernel) ?_
  refine va_iald hx hb hK hP 7 0 rfl rfl (in_lit (by decide +kernel)) dX12_image_58 ?_
  refine ow_top 0 rfl ?_
  refine ow_iastS hx hb hK hP hD hS 12 rfl (in_lit (by decide +kernel)) dX12_image_59 ?_
  clear hP hD hS
  try clear H locs
  intro H locs hP hD hS
  replace hP : va_P G vwCl [(mo, .inr (12, [.ref (h 0), .ref (h 1), .int 0, .int 0, .int 0, .int (-1), .int 0, .int 0, .int 0, .int 0, .long 0, .ref (h 2), .ref (h 3), .ref (h 4), .ref (h 5), .ref (h 6), .ref (h 7), .ref (h 8), .ref (h 9), .ref (h 10), .ref (h 11), .ref (h 12), .ref (h 13), .ref (h 14), .ref (h 15), .ref (h 16), .ref (h 17), .ref (h 18), .ref (h 19), .int 0, .int 0, .int 0, .int 0, .int 0, .int 0, .ref (h 20), .ref (h 21), .int 0, .ref (h 22), .ref (h 23), .ref (h 24), .ref (h 25), .ref (h 26), .int 0, .int 0, .ref (h 27), .ref (h 28), .ref (h 29), .ref (h 30), .ref (h 31), .int 0, .int 0, .ref (h 32), .ref (h 33), .ref (h 34), .ref (h 35), .ref (h 36), .ref (h 37)])), ((h 0), .inl (cy 1, 1720, .inl (fun _ => 0))), ((h 2), .inl (cy 0, 2, .inl (fun _ => 0))), ((h 3), .inl (cy 0, 2, .inl (fun _ => 0))), ((h 4), .inl (cy 0, 2, .inl (fun _ => 0))), ((h 5), .inl (cy 0, 2, .inl (f 0))), ((h 12), .inl (cy 2, 2, .inl (f 1))), ((h 7), .inl (cy 0, 1200, .inl (fun _ => 0))), ((h 8), .inl (cy 0, 1200, .inl (fun _ => 0))), ((h 20), .inl (cy 2, 8, .inl (fun _ => 0))), ((h 21), .inl (cy 0, 8, .inl (fun _ => 0))), ((h 32), .inl (cy 0, 3, .inl f_4)), ((h 33), .inl (cy 0, 120, .inl (fun _ => 0))), ((h 34), .inl (cy 0, 120, .inl (fun _ => 0))), ((h 35), .inl (cy 0, 24, .inl (fun _ => 0))), ((h 36), .inl (cy 2, 24, .inl (fun _ => 0))), ((h 37), .inl (cy 2, 3, .inl f_5))] H := hP
  replace hD : va_D A [(mo, .inr (12, [.ref (h 0), .ref (h 1), .int 0, .int 0, .int 0, .int (-1), .int 0, .int 0, .int 0, .int 0, .long 0, .ref (h 2), .ref (h 3), .ref (h 4), .ref (h 5), .ref (h 6), .ref (h 7), .ref (h 8), .ref (h 9), .ref (h 10), .ref (h 11), .ref (h 12), .ref (h 13), .ref (h 14), .ref (h 15), .ref (h 16), .ref (h 17), .ref (h 18), .ref (h 19), .int 0, .int 0, .int 0, .int 0, .int 0, .int 0, .ref (h 20), .ref (h 21), .int 0, .ref (h 22), .ref (h 23), .ref (h 24), .ref (h 25), .ref (h 26), .int 0, .int 0, .ref (h 27), .ref (h 28), .ref (h 29), .ref (h 30), .ref (h 31), .int 0, .int 0, .ref (h 32), .ref (h 33), .ref (h 34), .ref (h 35), .ref (h 36), .ref (h 37)])), ((h 0), .inl (cy 1, 1720, .inl (fun _ => 0))), ((h 2), .inl (cy 0, 2, .inl (fun _ => 0))), ((h 3), .inl (cy 0, 2, .inl (fun _ => 0))), ((h 4), .inl (cy 0, 2, .inl (fun _ => 0))), ((h 5), .inl (cy 0, 2, .inl (f 0))), ((h 12), .inl (cy 2, 2, .inl (f 1))), ((h 7), .inl (cy 0, 1200, .inl (fun _ => 0))), ((h 8), .inl (cy 0, 1200, .inl (fun _ => 0))), ((h 20), .inl (cy 2, 8, .inl (fun _ => 0))), ((h 21), .inl (cy 0, 8, .inl (fun _ => 0))), ((h 32), .inl (cy 0, 3, .inl f_4)), ((h 33), .inl (cy 0, 120, .inl (fun _ => 0))), ((h 34), .inl (cy 0, 120, .inl (fun _ => 0))), ((h 35), .inl (cy 0, 24, .inl (fun _ => 0))), ((h 36), .inl (cy 2, 24, .inl (fun _ => 0))), ((h 37), .inl (cy 2, 3, .inl f_5))] := hD
  refine lv_aload_n hx hb dX12_image_60 rfl (lv_at hl 1 rfl) ?_
  refine va_get (ci := 12) (v := .ref (h 34)) (C := RX12) (T := TX12) (N := 58) hx hb ht iX12 hown hK hP 0 rfl rfl 54 (by decide) (ht _ k_306) (fun _ h9 => h9) rfl dX12_image_61 ?_
  refine lv_bipush (v := 40) hx hb dX12_image_64 (by decide) ?_
  refine lv_iload_n hx hb dX12_image_66 rfl (lv_at hl 2 rfl) ?_
  refine lv_imul hx hb dX12_image_67 ?_
  refine ow_top 0 (by decide +kernel) ?_
  refine lv_iload_n hx hb dX12_image_68 rfl (lv_at hl 0 rfl) ?_
  refine lv_iadd hx hb dX12_image_69 ?_
  refine ow_top 6 (by decide +kernel) ?_
  refine lv_aload_n hx hb dX12_image_70 rfl (lv_at hl 1 rfl) ?_
  refine va_get (ci := 12) (v := .ref (h 8)) (C := RX12) (T := TX12) (N := 58) hx hb ht iX12 hown hK hP 0 rfl rfl 17 (by decide) (ht _ k_281) (fun _ h9 => h9) rfl dX12_image_71 ?_
  refine lv_sipush (v := 1120) hx hb dX12_image_74 (by decide) ?_
  refine lv_iload_n hx hb dX12_image_77 rfl (lv_at hl 0 rfl) ?_
  refine lv_iadd hx hb dX12_image_78 ?_
  refine ow_top 1126 (by decide +kernel) ?_
  refine va_iald hx hb hK hP 8 0 rfl rfl (in_lit (by decide +kernel)) dX12_image_79 ?_
  refine ow_top 0 rfl ?_
  refine ow_iastS hx hb hK hP hD hS 13 rfl (in_lit (by decide +kernel)) dX12_image_80 ?_
  clear hP hD hS
  try clear H locs
  intro H locs hP hD hS
  replace hP : va_P G vwCl [(mo, .inr (12, [.ref (h 0), .ref (h 1), .int 0, .int 0, .int 0, .int (-1), .int 0, .int 0, .int 0, .int 0, .long 0, .ref (h 2), .ref (h 3), .ref (h 4), .ref (h 5), .ref (h 6), .ref (h 7), .ref (h 8), .ref (h 9), .ref (h 10), .ref (h 11), .ref (h 12), .ref (h 13), .ref (h 14), .ref (h 15), .ref (h 16), .ref (h 17), .ref (h 18), .ref (h 19), .int 0, .int 0, .int 0, .int 0, .int 0, .int 0, .ref (h 20), .ref (h 21), .int 0, .ref (h 22), .ref (h 23), .ref (h 24), .ref (h 25), .ref (h 26), .int 0, .int 0, .ref (h 27), .ref (h 28), .ref (h 29), .ref (h 30), .ref (h 31), .int 0, .int 0, .ref (h 32), .ref (h 33), .ref (h 34), .ref (h 35), .ref (h 36), .ref (h 37)])), ((h 0), .inl (cy 1, 1720, .inl (fun _ => 0))), ((h 2), .inl (cy 0, 2, .inl (fun _ => 0))), ((h 3), .inl (cy 0, 2, .inl (fun _ => 0))), ((h 4), .inl (cy 0, 2, .inl (fun _ => 0))), ((h 5), .inl (cy 0, 2, .inl (f 0))), ((h 12), .inl (cy 2, 2, .inl (f 1))), ((h 7), .inl (cy 0, 1200, .inl (fun _ => 0))), ((h 8), .inl (cy 0, 1200, .inl (fun _ => 0))), ((h 20), .inl (cy 2, 8, .inl (fun _ => 0))), ((h 21), .inl (cy 0, 8, .inl (fun _ => 0))), ((h 32), .inl (cy 0, 3, .inl f_4)), ((h 33), .inl (cy 0, 120, .inl (fun _ => 0))), ((h 34), .inl (cy 0, 120, .inl (fun _ => 0))), ((h 35), .inl (cy 0, 24, .inl (fun _ => 0))), ((h 36), .inl (cy 2, 24, .inl (fun _ => 0))), ((h 37), .inl (cy 2, 3, .inl f_5))] H := hP
  replace hD : va_D A [(mo, .inr (12, [.ref (h 0), .ref (h 1), .int 0, .int 0, .int 0, .int (-1), .int 0, .int 0, .int 0, .int 0, .long 0, .ref (h 2), .ref (h 3), .ref (h 4), .ref (h 5), .ref (h 6), .ref (h 7), .ref (h 8), .ref (h 9), .ref (h 10), .ref (h 11), .ref (h 12), .ref (h 13), .ref (h 14), .ref (h 15), .ref (h 16), .ref (h 17), .ref (h 18), .ref (h 19), .int 0, .int 0, .int 0, .int 0, .int 0, .int 0, .ref (h 20), .ref (h 21), .int 0, .ref (h 22), .ref (h 23), .ref (h 24), .ref (h 25), .ref (h 26), .int 0, .int 0, .ref (h 27), .ref (h 28), .ref (h 29), .ref (h 30), .ref (h 31), .int 0, .int 0, .ref (h 32), .ref (h 33), .ref (h 34), .ref (h 35), .ref (h 36), .ref (h 37)])), ((h 0), .inl (cy 1, 1720, .inl (fun _ => 0))), ((h 2), .inl (cy 0, 2, .inl (fun _ => 0))), ((h 3), .inl (cy 0, 2, .inl (fun _ => 0))), ((h 4), .inl (cy 0, 2, .inl (fun _ => 0))), ((h 5), .inl (cy 0, 2, .inl (f 0))), ((h 12), .inl (cy 2, 2, .inl (f 1))), ((h 7), .inl (cy 0, 1200, .inl (fun _ => 0))), ((h 8), .inl (cy 0, 1200, .inl (fun _ => 0))), ((h 20), .inl (cy 2, 8, .inl (fun _ => 0))), ((h 21), .inl (cy 0, 8, .inl (fun _ => 0))), ((h 32), .inl (cy 0, 3, .inl f_4)), ((h 33), .inl (cy 0, 120, .inl (fun _ => 0))), ((h 34), .inl (cy 0, 120, .inl (fun _ => 0))), ((h 35), .inl (cy 0, 24, .inl (fun _ => 0))), ((h 36), .inl (cy 2, 24, .inl (fun _ => 0))), ((h 37), .inl (cy 2, 3, .inl f_5))] := hD
  refine lv_iinc (v := 7) (lv' := [(2, .int 7), (0, .ref mo), (1, .int 0)]) hx hb dX12_image_81 hl (k := 0) rfl (by decide) (by decide) rfl ?_
  clear hl
  try clear ls
  intro ls hl
  refine lv_goto (tgt := 33) hx hb dX12_image_84 (by decide) ?_
  refine lv_iload_n hx hb dX12_image_33 rfl (lv_at hl 0 rfl) ?_
  refine lv_bipush (v := 40) hx hb dX12_image_34 (by decide) ?_
  refine lv_icmp_ge (tgt := 87) hx hb dX12_image_36 (by decide) (fun c9 => absurd c9 (by decide)) (fun _ => ?_)
  refine lv_aload_n hx hb dX12_image_39 rfl (lv_at hl 1 rfl) ?_
  refine va_get (ci := 12) (v := .ref (h 33)) (C := RX12) (T := TX12) (N := 58) hx hb ht iX12 hown hK hP 0 rfl rfl 53 (by decide) (ht _ k_305) (fun _ h9 => h9) rfl dX12_image_40 ?_
  refine lv_bipush (v := 40) hx hb dX12_image_43 (by decide) ?_
  refine lv_iload_n hx hb dX12_image_45 rfl (lv_at hl 2 rfl) ?_
  refine lv_imul hx hb dX12_image_46 ?_
  refine ow_top 0 (by decide +kernel) ?_
  refine lv_iload_n hx hb dX12_image_47 rfl (lv_at hl 0 rfl) ?_
  refine lv_iadd hx hb dX12_image_48 ?_
  refine ow_top 7 (by decide +kernel) ?_
  refine lv_aload_n hx hb dX12_image_49 rfl (lv_at hl 1 rfl) ?_
  refine va_get (ci := 12) (v := .ref (h 7)) (C := RX12) (T := TX12) (N := 58) hx hb ht iX12 hown hK hP 0 rfl rfl 16 (by decide) (ht _ k_280) (fun _ h9 => h9) rfl dX12_image_50 ?_
  refine lv_sipush (v := 1120) hx hb dX12_image_53 (by decide) ?_
  refine lv_iload_n hx hb dX12_image_56 rfl (lv_at hl 0 rfl) ?_
  refine lv_iadd hx hb dX12_image_57 ?_
  refine ow_top 1127 (by decide +kernel) ?_
  refine va_iald hx hb hK hP 7 0 rfl rfl (in_lit (by decide +kernel)) dX12_image_58 ?_
  refine ow_top 0 rfl ?_
  refine ow_iastS hx hb hK hP hD hS 12 rfl (in_lit (by decide +kernel)) dX12_image_59 ?_
  clear hP hD hS
  try clear H locs
  intro H locs hP hD hS
  replace hP : va_P G vwCl [(mo, .inr (12, [.ref (h 0), .ref (h 1), .int 0, .int 0, .int 0, .int (-1), .int 0, .int 0, .int 0, .int 0, .long 0, .ref (h 2), .ref (h 3), .ref (h 4), .ref (h 5), .ref (h 6), .ref (h 7), .ref (h 8), .ref (h 9), .ref (h 10), .ref (h 11), .ref (h 12), .ref (h 13), .ref (h 14), .ref (h 15), .ref (h 16), .ref (h 17), .ref (h 18), .ref (h 19), .int 0, .int 0, .int 0, .int 0, .int 0, .int 0, .ref (h 20), .ref (h 21), .int 0, .ref (h 22), .ref (h 23), .ref (h 24), .ref (h 25), .ref (h 26), .int 0, .int 0, .ref (h 27), .ref (h 28), .ref (h 29), .ref (h 30), .ref (h 31), .int 0, .int 0, .ref (h 32), .ref (h 33), .ref (h 34), .ref (h 35), .ref (h 36), .ref (h 37)])), ((h 0), .inl (cy 1, 1720, .inl (fun _ => 0))), ((h 2), .inl (cy 0, 2, .inl (fun _ => 0))), ((h 3), .inl (cy 0, 2, .inl (fun _ => 0))), ((h 4), .inl (cy 0, 2, .inl (fun _ => 0))), ((h 5), .inl (cy 0, 2, .inl (f 0))), ((h 12), .inl (cy 2, 2, .inl (f 1))), ((h 7), .inl (cy 0, 1200, .inl (fun _ => 0))), ((h 8), .inl (cy 0, 1200, .inl (fun _ => 0))), ((h 20), .inl (cy 2, 8, .inl (fun _ => 0))), ((h 21), .inl (cy 0, 8, .inl (fun _ => 0))), ((h 32), .inl (cy 0, 3, .inl f_4)), ((h 33), .inl (cy 0, 120, .inl (fun _ => 0))), ((h 34), .inl (cy 0, 120, .inl (fun _ => 0))), ((h 35), .inl (cy 0, 24, .inl (fun _ => 0))), ((h 36), .inl (cy 2, 24, .inl (fun _ => 0))), ((h 37), .inl (cy 2, 3, .inl f_5))] H := hP
  replace hD : va_D A [(mo, .inr (12, [.ref (h 0), .ref (h 1), .int 0, .int 0, .int 0, .int (-1), .int 0, .int 0, .int 0, .int 0, .long 0, .ref (h 2), .ref (h 3), .ref (h 4), .ref (h 5), .ref (h 6), .ref (h 7), .ref (h 8), .ref (h 9), .ref (h 10), .ref (h 11), .ref (h 12), .ref (h 13), .ref (h 14), .ref (h 15), .ref (h 16), .ref (h 17), .ref (h 18), .ref (h 19), .int 0, .int 0, .int 0, .int 0, .int 0, .int 0, .ref (h 20), .ref (h 21), .int 0, .ref (h 22), .ref (h 23), .ref (h 24), .ref (h 25), .ref (h 26), .int 0, .int 0, .ref (h 27), .ref (h 28), .ref (h 29), .ref (h 30), .ref (h 31), .int 0, .int 0, .ref (h 32), .ref (h 33), .ref (h 34), .ref (h 35), .ref (h 36), .ref (h 37)])), ((h 0), .inl (cy 1, 1720, .inl (fun _ => 0))), ((h 2), .inl (cy 0, 2, .inl (fun _ => 0))), ((h 3), .inl (cy 0, 2, .inl (fun _ => 0))), ((h 4), .inl (cy 0, 2, .inl (fun _ => 0))), ((h 5), .inl (cy 0, 2, .inl (f 0))), ((h 12), .inl (cy 2, 2, .inl (f 1))), ((h 7), .inl (cy 0, 1200, .inl (fun _ => 0))), ((h 8), .inl (cy 0, 1200, .inl (fun _ => 0))), ((h 20), .inl (cy 2, 8, .inl (fun _ => 0))), ((h 21), .inl (cy 0, 8, .inl (fun _ => 0))), ((h 32), .inl (cy 0, 3, .inl f_4)), ((h 33), .inl (cy 0, 120, .inl (fun _ => 0))), ((h 34), .inl (cy 0, 120, .inl (fun _ => 0))), ((h 35), .inl (cy 0, 24, .inl (fun _ => 0))), ((h 36), .inl (cy 2, 24, .inl (fun _ => 0))), ((h 37), .inl (cy 2, 3, .inl f_5))] := hD
  refine lv_aload_n hx hb dX12_image_60 rfl (lv_at hl 1 rfl) ?_
  refine va_get (ci := 12) (v := .ref (h 34)) (C := RX12) (T := TX12) (N := 58) hx hb ht iX12 hown hK hP 0 rfl rfl 54 (by decide) (ht _ k_306) (fun _ h9 => h9) rfl dX12_image_61 ?_
  refine lv_bipush (v := 40) hx hb dX12_image_64 (by decide) ?_
  refine lv_iload_n hx hb dX12_image_66 rfl (lv_at hl 2 rfl) ?_
  refine lv_imul hx hb dX12_image_67 ?_
  refine ow_top 0 (by decide +kernel) ?_
  refine lv_iload_n hx hb dX12_image_68 rfl (lv_at hl 0 rfl) ?_
  refine lv_iadd hx hb dX12_image_69 ?_
  refine ow_top 7 (by decide +kernel) ?_
  refine lv_aload_n hx hb dX12_image_70 rfl (lv_at hl 1 rfl) ?_
  refine va_get (ci := 12) (v := .ref (h 8)) (C := RX12) (T := TX12) (N := 58) hx hb ht iX12 hown hK hP 0 rfl rfl 17 (by decide) (ht _ k_281) (fun _ h9 => h9) rfl dX12_image_71 ?_
  refine lv_sipush (v := 1120) hx hb dX12_image_74 (by decide) ?_
  refine lv_iload_n hx hb dX12_image_77 rfl (lv_at hl 0 rfl) ?_
  refine lv_iadd hx hb dX12_image_78 ?_
  refine ow_top 1127 (by decide +kernel) ?_
  refine va_iald hx hb hK hP 8 0 rfl rfl (in_lit (by decide +kernel)) dX12_image_79 ?_
  refine ow_top 0 rfl ?_
  refine ow_iastS hx hb hK hP hD hS 13 rfl (in_lit (by decide +kernel)) dX12_image_80 ?_
  clear hP hD hS
  try clear H locs
  intro H locs hP hD hS
  replace hP : va_P G vwCl [(mo, .inr (12, [.ref (h 0), .ref (h 1), .int 0, .int 0, .int 0, .int (-1), .int 0, .int 0, .int 0, .int 0, .long 0, .ref (h 2), .ref (h 3), .ref (h 4), .ref (h 5), .ref (h 6), .ref (h 7), .ref (h 8), .ref (h 9), .ref (h 10), .ref (h 11), .ref (h 12), .ref (h 13), .ref (h 14), .ref (h 15), .ref (h 16), .ref (h 17), .ref (h 18), .ref (h 19), .int 0, .int 0, .int 0, .int 0, .int 0, .int 0, .ref (h 20), .ref (h 21), .int 0, .ref (h 22), .ref (h 23), .ref (h 24), .ref (h 25), .ref (h 26), .int 0, .int 0, .ref (h 27), .ref (h 28), .ref (h 29), .ref (h 30), .ref (h 31), .int 0, .int 0, .ref (h 32), .ref (h 33), .ref (h 34), .ref (h 35), .ref (h 36), .ref (h 37)])), ((h 0), .inl (cy 1, 1720, .inl (fun _ => 0))), ((h 2), .inl (cy 0, 2, .inl (fun _ => 0))), ((h 3), .inl (cy 0, 2, .inl (fun _ => 0))), ((h 4), .inl (cy 0, 2, .inl (fun _ => 0))), ((h 5), .inl (cy 0, 2, .inl (f 0))), ((h 12), .inl (cy 2, 2, .inl (f 1))), ((h 7), .inl (cy 0, 1200, .inl (fun _ => 0))), ((h 8), .inl (cy 0, 1200, .inl (fun _ => 0))), ((h 20), .inl (cy 2, 8, .inl (fun _ => 0))), ((h 21), .inl (cy 0, 8, .inl (fun _ => 0))), ((h 32), .inl (cy 0, 3, .inl f_4)), ((h 33), .inl (cy 0, 120, .inl (fun _ => 0))), ((h 34), .inl (cy 0, 120, .inl (fun _ => 0))), ((h 35), .inl (cy 0, 24, .inl (fun _ => 0))), ((h 36), .inl (cy 2, 24, .inl (fun _ => 0))), ((h 37), .inl (cy 2, 3, .inl f_5))] H := hP
  replace hD : va_D A [(mo, .inr (12, [.ref (h 0), .ref (h 1), .int 0, .int 0, .int 0, .int (-1), .int 0, .int 0, .int 0, .int 0, .long 0, .ref (h 2), .ref (h 3), .ref (h 4), .ref (h 5), .ref (h 6), .ref (h 7), .ref (h 8), .ref (h 9), .ref (h 10), .ref (h 11), .ref (h 12), .ref (h 13), .ref (h 14), .ref (h 15), .ref (h 16), .ref (h 17), .ref (h 18), .ref (h 19), .int 0, .int 0, .int 0, .int 0, .int 0, .int 0, .ref (h 20), .ref (h 21), .int 0, .ref (h 22), .ref (h 23), .ref (h 24), .ref (h 25), .ref (h 26), .int 0, .int 0, .ref (h 27), .ref (h 28), .ref (h 29), .ref (h 30), .ref (h 31), .int 0, .int 0, .ref (h 32), .ref (h 33), .ref (h 34), .ref (h 35), .ref (h 36), .ref (h 37)])), ((h 0), .inl (cy 1, 1720, .inl (fun _ => 0))), ((h 2), .inl (cy 0, 2, .inl (fun _ => 0))), ((h 3), .inl (cy 0, 2, .inl (fun _ => 0))), ((h 4), .inl (cy 0, 2, .inl (fun _ => 0))), ((h 5), .inl (cy 0, 2, .inl (f 0))), ((h 12), .inl (cy 2, 2, .inl (f 1))), ((h 7), .inl (cy 0, 1200, .inl (fun _ => 0))), ((h 8), .inl (cy 0, 1200, .inl (fun _ => 0))), ((h 20), .inl (cy 2, 8, .inl (fun _ => 0))), ((h 21), .inl (cy 0, 8, .inl (fun _ => 0))), ((h 32), .inl (cy 0, 3, .inl f_4)), ((h 33), .inl (cy 0, 120, .inl (fun _ => 0))), ((h 34), .inl (cy 0, 120, .inl (fun _ => 0))), ((h 35), .inl (cy 0, 24, .inl (fun _ => 0))), ((h 36), .inl (cy 2, 24, .inl (fun _ => 0))), ((h 37), .inl (cy 2, 3, .inl f_5))] := hD
  refine lv_iinc (v := 8) (lv' := [(2, .int 8), (0, .ref mo), (1, .int 0)]) hx hb dX12_image_81 hl (k := 0) rfl (by decide) (by decide) rfl ?_
  clear hl
  try clear ls
  intro ls hl
  refine lv_goto (tgt := 33) hx hb dX12_image_84 (by decide) ?_
  refine lv_iload_n hx hb dX12_image_33 rfl (lv_at hl 0 rfl) ?_
  refine lv_bipush (v := 40) hx hb dX12_image_34 (by decide) ?_
  refine lv_icmp_ge (tgt := 87) hx hb dX12_image_36 (by decide) (fun c9 => absurd c9 (by decide)) (fun _ => ?_)
  refine lv_aload_n hx hb dX12_image_39 rfl (lv_at hl 1 rfl) ?_
  refine va_get (ci := 12) (v := .ref (h 33)) (C := RX12) (T := TX12) (N := 58) hx hb ht iX12 hown hK hP 0 rfl rfl 53 (by decide) (ht _ k_305) (fun _ h9 => h9) rfl dX12_image_40 ?_
  refine lv_bipush (v := 40) hx hb dX12_image_43 (by decide) ?_
  refine lv_iload_n hx hb dX12_image_45 rfl (lv_at hl 2 rfl) ?_
  refine lv_imul hx hb dX12_image_46 ?_
  refine ow_top 0 (by decide +kernel) ?_
  refine lv_iload_n hx hb dX12_image_47 rfl (lv_at hl 0 rfl) ?_
  refine lv_iadd hx hb dX12_image_48 ?_
  refine ow_top 8 (by decide +kernel) ?_
  refine lv_aload_n hx hb dX12_image_49 rfl (lv_at hl 1 rfl) ?_
  refine va_get (ci := 12) (v := .ref (h 7)) (C := RX12) (T := TX12) (N := 58) hx hb ht iX12 hown hK hP 0 rfl rfl 16 (by decide) (ht _ k_280) (fun _ h9 => h9) rfl dX12_image_50 ?_
  refine lv_sipush (v := 1120) hx hb dX12_image_53 (by decide) ?_
  refine lv_iload_n hx hb dX12_image_56 rfl (lv_at hl 0 rfl) ?_
  refine lv_iadd hx hb dX12_image_57 ?_
  refine ow_top 1128 (by decide +kernel) ?_
  refine va_iald hx hb hK hP 7 0 rfl rfl (in_lit (by decide +kernel)) dX12_image_58 ?_
  refine ow_top 0 rfl ?_
  refine ow_iastS hx hb hK hP hD hS 12 rfl (in_lit (by decide +kernel)) dX12_image_59 ?_
  clear hP hD hS
  try clear H locs
  intro H locs hP hD hS
  replace hP : va_P G vwCl [(mo, .inr (12, [.ref (h 0), .ref (h 1), .int 0, .int 0, .int 0, .int (-1), .int 0, .int 0, .int 0, .int 0, .long 0, .ref (h 2), .ref (h 3), .ref (h 4), .ref (h 5), .ref (h 6), .ref (h 7), .ref (h 8), .ref (h 9), .ref (h 10), .ref (h 11), .ref (h 12), .ref (h 13), .ref (h 14), .ref (h 15), .ref (h 16), .ref (h 17), .ref (h 18), .ref (h 19), .int 0, .int 0, .int 0, .int 0, .int 0, .int 0, .ref (h 20), .ref (h 21), .int 0, .ref (h 22), .ref (h 23), .ref (h 24), .ref (h 25), .ref (h 26), .int 0, .int 0, .ref (h 27), .ref (h 28), .ref (h 29), .ref (h 30), .ref (h 31), .int 0, .int 0, .ref (h 32), .ref (h 33), .ref (h 34), .ref (h 35), .ref (h 36), .ref (h 37)])), ((h 0), .inl (cy 1, 1720, .inl (fun _ => 0))), ((h 2), .inl (cy 0, 2, .inl (fun _ => 0))), ((h 3), .inl (cy 0, 2, .inl (fun _ => 0))), ((h 4), .inl (cy 0, 2, .inl (fun _ => 0))), ((h 5), .inl (cy 0, 2, .inl (f 0))), ((h 12), .inl (cy 2, 2, .inl (f 1))), ((h 7), .inl (cy 0, 1200, .inl (fun _ => 0))), ((h 8), .inl (cy 0, 1200, .inl (fun _ => 0))), ((h 20), .inl (cy 2, 8, .inl (fun _ => 0))), ((h 21), .inl (cy 0, 8, .inl (fun _ => 0))), ((h 32), .inl (cy 0, 3, .inl f_4)), ((h 33), .inl (cy 0, 120, .inl (fun _ => 0))), ((h 34), .inl (cy 0, 120, .inl (fun _ => 0))), ((h 35), .inl (cy 0, 24, .inl (fun _ => 0))), ((h 36), .inl (cy 2, 24, .inl (fun _ => 0))), ((h 37), .inl (cy 2, 3, .inl f_5))] H := hP
  replace hD : va_D A [(mo, .inr (12, [.ref (h 0), .ref (h 1), .int 0, .int 0, .int 0, .int (-1), .int 0, .int 0, .int 0, .int 0, .long 0, .ref (h 2), .ref (h 3), .ref (h 4), .ref (h 5), .ref (h 6), .ref (h 7), .ref (h 8), .ref (h 9), .ref (h 10), .ref (h 11), .ref (h 12), .ref (h 13), .ref (h 14), .ref (h 15), .ref (h 16), .ref (h 17), .ref (h 18), .ref (h 19), .int 0, .int 0, .int 0, .int 0, .int 0, .int 0, .ref (h 20), .ref (h 21), .int 0, .ref (h 22), .ref (h 23), .ref (h 24), .ref (h 25), .ref (h 26), .int 0, .int 0, .ref (h 27), .ref (h 28), .ref (h 29), .ref (h 30), .ref (h 31), .int 0, .int 0, .ref (h 32), .ref (h 33), .ref (h 34), .ref (h 35), .ref (h 36), .ref (h 37)])), ((h 0), .inl (cy 1, 1720, .inl (fun _ => 0))), ((h 2), .inl (cy 0, 2, .inl (fun _ => 0))), ((h 3), .inl (cy 0, 2, .inl (fun _ => 0))), ((h 4), .inl (cy 0, 2, .inl (fun _ => 0))), ((h 5), .inl (cy 0, 2, .inl (f 0))), ((h 12), .inl (cy 2, 2, .inl (f 1))), ((h 7), .inl (cy 0, 1200, .inl (fun _ => 0))), ((h 8), .inl (cy 0, 1200, .inl (fun _ => 0))), ((h 20), .inl (cy 2, 8, .inl (fun _ => 0))), ((h 21), .inl (cy 0, 8, .inl (fun _ => 0))), ((h 32), .inl (cy 0, 3, .inl f_4)), ((h 33), .inl (cy 0, 120, .inl (fun _ => 0))), ((h 34), .inl (cy 0, 120, .inl (fun _ => 0))), ((h 35), .inl (cy 0, 24, .inl (fun _ => 0))), ((h 36), .inl (cy 2, 24, .inl (fun _ => 0))), ((h 37), .inl (cy 2, 3, .inl f_5))] := hD
  refine lv_aload_n hx hb dX12_image_60 rfl (lv_at hl 1 rfl) ?_
  refine va_get (ci := 12) (v := .ref (h 34)) (C := RX12) (T := TX12) (N := 58) hx hb ht iX12 hown hK hP 0 rfl rfl 54 (by decide) (ht _ k_306) (fun _ h9 => h9) rfl dX12_image_61 ?_
  refine lv_bipush (v := 40) hx hb dX12_image_64 (by decide) ?_
  refine lv_iload_n hx hb dX12_image_66 rfl (lv_at hl 2 rfl) ?_
  refine lv_imul hx hb dX12_image_67 ?_
  refine ow_top 0 (by decide +kernel) ?_
  refine lv_iload_n hx hb dX12_image_68 rfl (lv_at hl 0 rfl) ?_
  refine lv_iadd hx hb dX12_image_69 ?_
  refine ow_top 8 (by decide +kernel) ?_
  refine lv_aload_n hx hb dX12_image_70 rfl (lv_at hl 1 rfl) ?_
  refine va_get (ci := 12) (v := .ref (h 8)) (C := RX12) (T := TX12) (N := 58) hx hb ht iX12 hown hK hP 0 rfl rfl 17 (by decide) (ht _ k_281) (fun _ h9 => h9) rfl dX12_image_71 ?_
  refine lv_sipush (v := 1120) hx hb dX12_image_74 (by decide) ?_
  refine lv_iload_n hx hb dX12_image_77 rfl (lv_at hl 0 rfl) ?_
  refine lv_iadd hx hb dX12_image_78 ?_
  refine ow_top 1128 (by decide +kernel) ?_
  refine va_iald hx hb hK hP 8 0 rfl rfl (in_lit (by decide +kernel)) dX12_image_79 ?_
  refine ow_top 0 rfl ?_
  refine ow_iastS hx hb hK hP hD hS 13 rfl (in_lit (by decide +kernel)) dX12_image_80 ?_
  clear hP hD hS
  try clear H locs
  intro H locs hP hD hS
  replace hP : va_P G vwCl [(mo, .inr (12, [.ref (h 0), .ref (h 1), .int 0, .int 0, .int 0, .int (-1), .int 0, .int 0, .int 0, .int 0, .long 0, .ref (h 2), .ref (h 3), .ref (h 4), .ref (h 5), .ref (h 6), .ref (h 7), .ref (h 8), .ref (h 9), .ref (h 10), .ref (h 11), .ref (h 12), .ref (h 13), .ref (h 14), .ref (h 15), .ref (h 16), .ref (h 17), .ref (h 18), .ref (h 19), .int 0, .int 0, .int 0, .int 0, .int 0, .int 0, .ref (h 20), .ref (h 21), .int 0, .ref (h 22), .ref (h 23), .ref (h 24), .ref (h 25), .ref (h 26), .int 0, .int 0, .ref (h 27), .ref (h 28), .ref (h 29), .ref (h 30), .ref (h 31), .int 0, .int 0, .ref (h 32), .ref (h 33), .ref (h 34), .ref (h 35), .ref (h 36), .ref (h 37)])), ((h 0), .inl (cy 1, 1720, .inl (fun _ => 0))), ((h 2), .inl (cy 0, 2, .inl (fun _ => 0))), ((h 3), .inl (cy 0, 2, .inl (fun _ => 0))), ((h 4), .inl (cy 0, 2, .inl (fun _ => 0))), ((h 5), .inl (cy 0, 2, .inl (f 0))), ((h 12), .inl (cy 2, 2, .inl (f 1))), ((h 7), .inl (cy 0, 1200, .inl (fun _ => 0))), ((h 8), .inl (cy 0, 1200, .inl (fun _ => 0))), ((h 20), .inl (cy 2, 8, .inl (fun _ => 0))), ((h 21), .inl (cy 0, 8, .inl (fun _ => 0))), ((h 32), .inl (cy 0, 3, .inl f_4)), ((h 33), .inl (cy 0, 120, .inl (fun _ => 0))), ((h 34), .inl (cy 0, 120, .inl (fun _ => 0))), ((h 35), .inl (cy 0, 24, .inl (fun _ => 0))), ((h 36), .inl (cy 2, 24, .inl (fun _ => 0))), ((h 37), .inl (cy 2, 3, .inl f_5))] H := hP
  replace hD : va_D A [(mo, .inr (12, [.ref (h 0), .ref (h 1), .int 0, .int 0, .int 0, .int (-1), .int 0, .int 0, .int 0, .int 0, .long 0, .ref (h 2), .ref (h 3), .ref (h 4), .ref (h 5), .ref (h 6), .ref (h 7), .ref (h 8), .ref (h 9), .ref (h 10), .ref (h 11), .ref (h 12), .ref (h 13), .ref (h 14), .ref (h 15), .ref (h 16), .ref (h 17), .ref (h 18), .ref (h 19), .int 0, .int 0, .int 0, .int 0, .int 0, .int 0, .ref (h 20), .ref (h 21), .int 0, .ref (h 22), .ref (h 23), .ref (h 24), .ref (h 25), .ref (h 26), .int 0, .int 0, .ref (h 27), .ref (h 28), .ref (h 29), .ref (h 30), .ref (h 31), .int 0, .int 0, .ref (h 32), .ref (h 33), .ref (h 34), .ref (h 35), .ref (h 36), .ref (h 37)])), ((h 0), .inl (cy 1, 1720, .inl (fun _ => 0))), ((h 2), .inl (cy 0, 2, .inl (fun _ => 0))), ((h 3), .inl (cy 0, 2, .inl (fun _ => 0))), ((h 4), .inl (cy 0, 2, .inl (fun _ => 0))), ((h 5), .inl (cy 0, 2, .inl (f 0))), ((h 12), .inl (cy 2, 2, .inl (f 1))), ((h 7), .inl (cy 0, 1200, .inl (fun _ => 0))), ((h 8), .inl (cy 0, 1200, .inl (fun _ => 0))), ((h 20), .inl (cy 2, 8, .inl (fun _ => 0))), ((h 21), .inl (cy 0, 8, .inl (fun _ => 0))), ((h 32), .inl (cy 0, 3, .inl f_4)), ((h 33), .inl (cy 0, 120, .inl (fun _ => 0))), ((h 34), .inl (cy 0, 120, .inl (fun _ => 0))), ((h 35), .inl (cy 0, 24, .inl (fun _ => 0))), ((h 36), .inl (cy 2, 24, .inl (fun _ => 0))), ((h 37), .inl (cy 2, 3, .inl f_5))] := hD
  refine lv_iinc (v := 9) (lv' := [(2, .int 9), (0, .ref mo), (1, .int 0)]) hx hb dX12_image_81 hl (k := 0) rfl (by decide) (by decide) rfl ?_
  clear hl
  try clear ls
  intro ls hl
  refine lv_goto (tgt := 33) hx hb dX12_image_84 (by decide) ?_
  refine lv_iload_n hx hb dX12_image_33 rfl (lv_at hl 0 rfl) ?_
  refine lv_bipush (v := 40) hx hb dX12_image_34 (by decide) ?_
  refine lv_icmp_ge (tgt := 87) hx hb dX12_image_36 (by decide) (fun c9 => absurd c9 (by decide)) (fun _ => ?_)
  refine lv_aload_n hx hb dX12_image_39 rfl (lv_at hl 1 rfl) ?_
  refine va_get (ci := 12) (v := .ref (h 33)) (C := RX12) (T := TX12) (N := 58) hx hb ht iX12 hown hK hP 0 rfl rfl 53 (by decide) (ht _ k_305) (fun _ h9 => h9) rfl dX12_image_40 ?_
  refine lv_bipush (v := 40) hx hb dX12_image_43 (by decide) ?_
  refine lv_iload_n hx hb dX12_image_45 rfl (lv_at hl 2 rfl) ?_
  refine lv_imul hx hb dX12_image_46 ?_
  refine ow_top 0 (by decide +kernel) ?_
  refine lv_iload_n hx hb dX12_image_47 rfl (lv_at hl 0 rfl) ?_
  refine lv_iadd hx hb dX12_image_48 ?_
  refine ow_top 9 (by decide +kernel) ?_
  refine lv_aload_n hx hb dX12_image_49 rfl (lv_at hl 1 rfl) ?_
  refine va_get (ci := 12) (v := .ref (h 7)) (C := RX12) (T := TX12) (N := 58) hx hb ht iX12 hown hK hP 0 rfl rfl 16 (by decide) (ht _ k_280) (fun _ h9 => h9) rfl dX12_image_50 ?_
  refine lv_sipush (v := 1120) hx hb dX12_image_53 (by decide) ?_
  refine lv_iload_n hx hb dX12_image_56 rfl (lv_at hl 0 rfl) ?_
  refine lv_iadd hx hb dX12_image_57 ?_
  refine ow_top 1129 (by decide +kernel) ?_
  refine va_iald hx hb hK hP 7 0 rfl rfl (in_lit (by decide +kernel)) dX12_image_58 ?_
  refine ow_top 0 rfl ?_
  refine ow_iastS hx hb hK hP hD hS 12 rfl (in_lit (by decide +kernel)) dX12_image_59 ?_
  clear hP hD hS
  try clear H locs
  intro H locs hP hD hS
  replace hP : va_P G vwCl [(mo, .inr (12, [.ref (h 0), .ref (h 1), .int 0, .int 0, .int 0, .int (-1), .int 0, .int 0, .int 0, .int 0, .long 0, .ref (h 2), .ref (h 3), .ref (h 4), .ref (h 5), .ref (h 6), .ref (h 7), .ref (h 8), .ref (h 9), .ref (h 10), .ref (h 11), .ref (h 12), .ref (h 13), .ref (h 14), .ref (h 15), .ref (h 16), .ref (h 17), .ref (h 18), .ref (h 19), .int 0, .int 0, .int 0, .int 0, .int 0, .int 0, .ref (h 20), .ref (h 21), .int 0, .ref (h 22), .ref (h 23), .ref (h 24), .ref (h 25), .ref (h 26), .int 0, .int 0, .ref (h 27), .ref (h 28), .ref (h 29), .ref (h 30), .ref (h 31), .int 0, .int 0, .ref (h 32), .ref (h 33), .ref (h 34), .ref (h 35), .ref (h 36), .ref (h 37)])), ((h 0), .inl (cy 1, 1720, .inl (fun _ => 0))), ((h 2), .inl (cy 0, 2, .inl (fun _ => 0))), ((h 3), .inl (cy 0, 2, .inl (fun _ => 0))), ((h 4), .inl (cy 0, 2, .inl (fun _ => 0))), ((h 5), .inl (cy 0, 2, .inl (f 0))), ((h 12), .inl (cy 2, 2, .inl (f 1))), ((h 7), .inl (cy 0, 1200, .inl (fun _ => 0))), ((h 8), .inl (cy 0, 1200, .inl (fun _ => 0))), ((h 20), .inl (cy 2, 8, .inl (fun _ => 0))), ((h 21), .inl (cy 0, 8, .inl (fun _ => 0))), ((h 32), .inl (cy 0, 3, .inl f_4)), ((h 33), .inl (cy 0, 120, .inl (fun _ => 0))), ((h 34), .inl (cy 0, 120, .inl (fun _ => 0))), ((h 35), .inl (cy 0, 24, .inl (fun _ => 0))), ((h 36), .inl (cy 2, 24, .inl (fun _ => 0))), ((h 37), .inl (cy 2, 3, .inl f_5))] H := hP
  replace hD : va_D A [(mo, .inr (12, [.ref (h 0), .ref (h 1), .int 0, .int 0, .int 0, .int (-1), .int 0, .int 0, .int 0, .int 0, .long 0, .ref (h 2), .ref (h 3), .ref (h 4), .ref (h 5), .ref (h 6), .ref (h 7), .ref (h 8), .ref (h 9), .ref (h 10), .ref (h 11), .ref (h 12), .ref (h 13), .ref (h 14), .ref (h 15), .ref (h 16), .ref (h 17), .ref (h 18), .ref (h 19), .int 0, .int 0, .int 0, .int 0, .int 0, .int 0, .ref (h 20), .ref (h 21), .int 0, .ref (h 22), .ref (h 23), .ref (h 24), .ref (h 25), .ref (h 26), .int 0, .int 0, .ref (h 27), .ref (h 28), .ref (h 29), .ref (h 30), .ref (h 31), .int 0, .int 0, .ref (h 32), .ref (h 33), .ref (h 34), .ref (h 35), .ref (h 36), .ref (h 37)])), ((h 0), .inl (cy 1, 1720, .inl (fun _ => 0))), ((h 2), .inl (cy 0, 2, .inl (fun _ => 0))), ((h 3), .inl (cy 0, 2, .inl (fun _ => 0))), ((h 4), .inl (cy 0, 2, .inl (fun _ => 0))), ((h 5), .inl (cy 0, 2, .inl (f 0))), ((h 12), .inl (cy 2, 2, .inl (f 1))), ((h 7), .inl (cy 0, 1200, .inl (fun _ => 0))), ((h 8), .inl (cy 0, 1200, .inl (fun _ => 0))), ((h 20), .inl (cy 2, 8, .inl (fun _ => 0))), ((h 21), .inl (cy 0, 8, .inl (fun _ => 0))), ((h 32), .inl (cy 0, 3, .inl f_4)), ((h 33), .inl (cy 0, 120, .inl (fun _ => 0))), ((h 34), .inl (cy 0, 120, .inl (fun _ => 0))), ((h 35), .inl (cy 0, 24, .inl (fun _ => 0))), ((h 36), .inl (cy 2, 24, .inl (fun _ => 0))), ((h 37), .inl (cy 2, 3, .inl f_5))] := hD
  refine lv_aload_n hx hb dX12_image_60 rfl (lv_at hl 1 rfl) ?_
  refine va_get (ci := 12) (v := .ref (h 34)) (C := RX12) (T := TX12) (N := 58) hx hb ht iX12 hown hK hP 0 rfl rfl 54 (by decide) (ht _ k_306) (fun _ h9 => h9) rfl dX12_image_61 ?_
  refine lv_bipush (v := 40) hx hb dX12_image_64 (by decide) ?_
  refine lv_iload_n hx hb dX12_image_66 rfl (lv_at hl 2 rfl) ?_
  refine lv_imul hx hb dX12_image_67 ?_
  refine ow_top 0 (by decide +kernel) ?_
  refine lv_iload_n hx hb dX12_image_68 rfl (lv_at hl 0 rfl) ?_
  refine lv_iadd hx hb dX12_image_69 ?_
  refine ow_top 9 (by decide +kernel) ?_
  refine lv_aload_n hx hb dX12_image_70 rfl (lv_at hl 1 rfl) ?_
  refine va_get (ci := 12) (v := .ref (h 8)) (C := RX12) (T := TX12) (N := 58) hx hb ht iX12 hown hK hP 0 rfl rfl 17 (by decide) (ht _ k_281) (fun _ h9 => h9) rfl dX12_image_71 ?_
  refine lv_sipush (v := 1120) hx hb dX12_image_74 (by decide) ?_
  refine lv_iload_n hx hb dX12_image_77 rfl (lv_at hl 0 rfl) ?_
  refine lv_iadd hx hb dX12_image_78 ?_
  refine ow_top 1129 (by decide +kernel) ?_
  refine va_iald hx hb hK hP 8 0 rfl rfl (in_lit (by decide +kernel)) dX12_image_79 ?_
  refine ow_top 0 rfl ?_
  refine ow_iastS hx hb hK hP hD hS 13 rfl (in_lit (by decide +kernel)) dX12_image_80 ?_
  clear hP hD hS
  try clear H locs
  intro H locs hP hD hS
  replace hP : va_P G vwCl [(mo, .inr (12, [.ref (h 0), .ref (h 1), .int 0, .int 0, .int 0, .int (-1), .int 0, .int 0, .int 0, .int 0, .long 0, .ref (h 2), .ref (h 3), .ref (h 4), .ref (h 5), .ref (h 6), .ref (h 7), .ref (h 8), .ref (h 9), .ref (h 10), .ref (h 11), .ref (h 12), .ref (h 13), .ref (h 14), .ref (h 15), .ref (h 16), .ref (h 17), .ref (h 18), .ref (h 19), .int 0, .int 0, .int 0, .int 0, .int 0, .int 0, .ref (h 20), .ref (h 21), .int 0, .ref (h 22), .ref (h 23), .ref (h 24), .ref (h 25), .ref (h 26), .int 0, .int 0, .ref (h 27), .ref (h 28), .ref (h 29), .ref (h 30), .ref (h 31), .int 0, .int 0, .ref (h 32), .ref (h 33), .ref (h 34), .ref (h 35), .ref (h 36), .ref (h 37)])), ((h 0), .inl (cy 1, 1720, .inl (fun _ => 0))), ((h 2), .inl (cy 0, 2, .inl (fun _ => 0))), ((h 3), .inl (cy 0, 2, .inl (fun _ => 0))), ((h 4), .inl (cy 0, 2, .inl (fun _ => 0))), ((h 5), .inl (cy 0, 2, .inl (f 0))), ((h 12), .inl (cy 2, 2, .inl (f 1))), ((h 7), .inl (cy 0, 1200, .inl (fun _ => 0))), ((h 8), .inl (cy 0, 1200, .inl (fun _ => 0))), ((h 20), .inl (cy 2, 8, .inl (fun _ => 0))), ((h 21), .inl (cy 0, 8, .inl (fun _ => 0))), ((h 32), .inl (cy 0, 3, .inl f_4)), ((h 33), .inl (cy 0, 120, .inl (fun _ => 0))), ((h 34), .inl (cy 0, 120, .inl (fun _ => 0))), ((h 35), .inl (cy 0, 24, .inl (fun _ => 0))), ((h 36), .inl (cy 2, 24, .inl (fun _ => 0))), ((h 37), .inl (cy 2, 3, .inl f_5))] H := hP
  replace hD : va_D A [(mo, .inr (12, [.ref (h 0), .ref (h 1), .int 0, .int 0, .int 0, .int (-1), .int 0, .int 0, .int 0, .int 0, .long 0, .ref (h 2), .ref (h 3), .ref (h 4), .ref (h 5), .ref (h 6), .ref (h 7), .ref (h 8), .ref (h 9), .ref (h 10), .ref (h 11), .ref (h 12), .ref (h 13), .ref (h 14), .ref (h 15), .ref (h 16), .ref (h 17), .ref (h 18), .ref (h 19), .int 0, .int 0, .int 0, .int 0, .int 0, .int 0, .ref (h 20), .ref (h 21), .int 0, .ref (h 22), .ref (h 23), .ref (h 24), .ref (h 25), .ref (h 26), .int 0, .int 0, .ref (h 27), .ref (h 28), .ref (h 29), .ref (h 30), .ref (h 31), .int 0, .int 0, .ref (h 32), .ref (h 33), .ref (h 34), .ref (h 35), .ref (h 36), .ref (h 37)])), ((h 0), .inl (cy 1, 1720, .inl (fun _ => 0))), ((h 2), .inl (cy 0, 2, .inl (fun _ => 0))), ((h 3), .inl (cy 0, 2, .inl (fun _ => 0))), ((h 4), .inl (cy 0, 2, .inl (fun _ => 0))), ((h 5), .inl (cy 0, 2, .inl (f 0))), ((h 12), .inl (cy 2, 2, .inl (f 1))), ((h 7), .inl (cy 0, 1200, .inl (fun _ => 0))), ((h 8), .inl (cy 0, 1200, .inl (fun _ => 0))), ((h 20), .inl (cy 2, 8, .inl (fun _ => 0))), ((h 21), .inl (cy 0, 8, .inl (fun _ => 0))), ((h 32), .inl (cy 0, 3, .inl f_4)), ((h 33), .inl (cy 0, 120, .inl (fun _ => 0))), ((h 34), .inl (cy 0, 120, .inl (fun _ => 0))), ((h 35), .inl (cy 0, 24, .inl (fun _ => 0))), ((h 36), .inl (cy 2, 24, .inl (fun _ => 0))), ((h 37), .inl (cy 2, 3, .inl f_5))] := hD
  refine lv_iinc (v := 10) (lv' := [(2, .int 10), (0, .ref mo), (1, .int 0)]) hx hb dX12_image_81 hl (k := 0) rfl (by decide) (by decide) rfl ?_
  clear hl
  try clear ls
  intro ls hl
  refine lv_goto (tgt := 33) hx hb dX12_image_84 (by decide) ?_
  refine lv_iload_n hx hb dX12_image_33 rfl (lv_at hl 0 rfl) ?_
  refine lv_bipush (v := 40) hx hb dX12_image_34 (by decide) ?_
  refine lv_icmp_ge (tgt := 87) hx hb dX12_image_36 (by decide) (fun c9 => absurd c9 (by decide)) (fun _ => ?_)
  refine lv_aload_n hx hb dX12_image_39 rfl (lv_at hl 1 rfl) ?_
  refine va_get (ci := 12) (v := .ref (h 33)) (C := RX12) (T := TX12) (N := 58) hx hb ht iX12 hown hK hP 0 rfl rfl 53 (by decide) (ht _ k_305) (fun _ h9 => h9) rfl dX12_image_40 ?_
  refine lv_bipush (v := 40) hx hb dX12_image_43 (by decide) ?_
  refine lv_iload_n hx hb dX12_image_45 rfl (lv_at hl 2 rfl) ?_
  refine lv_imul hx hb dX12_image_46 ?_
  refine ow_top 0 (by decide +kernel) ?_
  refine lv_iload_n hx hb dX12_image_47 rfl (lv_at hl 0 rfl) ?_
  refine lv_iadd hx hb dX12_image_48 ?_
  refine ow_top 10 (by decide +kernel) ?_
  refine lv_aload_n hx hb dX12_image_49 rfl (lv_at hl 1 rfl) ?_
  refine va_get (ci := 12) (v := .ref (h 7)) (C := RX12) (T := TX12) (N := 58) hx hb ht iX12 hown hK hP 0 rfl rfl 16 (by decide) (ht _ k_280) (fun _ h9 => h9) rfl dX12_image_50 ?_
  refine lv_sipush (v := 1120) hx hb dX12_image_53 (by decide) ?_
  refine lv_iload_n hx hb dX12_image_56 rfl (lv_at hl 0 rfl) ?_
  refine lv_iadd hx hb dX12_image_57 ?_
  refine ow_top 1130 (by decide +kernel) ?_
  refine va_iald hx hb hK hP 7 0 rfl rfl (in_lit (by decide +kernel)) dX12_image_58 ?_
  refine ow_top 0 rfl ?_
  refine ow_iastS hx hb hK hP hD hS 12 rfl (in_lit (by decide +kernel)) dX12_image_59 ?_
  clear hP hD hS
  try clear H locs
  intro H locs hP hD hS
  replace hP : va_P G vwCl [(mo, .inr (12, [.ref (h 0), .ref (h 1), .int 0, .int 0, .int 0, .int (-1), .int 0, .int 0, .int 0, .int 0, .long 0, .ref (h 2), .ref (h 3), .ref (h 4), .ref (h 5), .ref (h 6), .ref (h 7), .ref (h 8), .ref (h 9), .ref (h 10), .ref (h 11), .ref (h 12), .ref (h 13), .ref (h 14), .ref (h 15), .ref (h 16), .ref (h 17), .ref (h 18), .ref (h 19), .int 0, .int 0, .int 0, .int 0, .int 0, .int 0, .ref (h 20), .ref (h 21), .int 0, .ref (h 22), .ref (h 23), .ref (h 24), .ref (h 25), .ref (h 26), .int 0, .int 0, .ref (h 27), .ref (h 28), .ref (h 29), .ref (h 30), .ref (h 31), .int 0, .int 0, .ref (h 32), .ref (h 33), .ref (h 34), .ref (h 35), .ref (h 36), .ref (h 37)])), ((h 0), .inl (cy 1, 1720, .inl (fun _ => 0))), ((h 2), .inl (cy 0, 2, .inl (fun _ => 0))), ((h 3), .inl (cy 0, 2, .inl (fun _ => 0))), ((h 4), .inl (cy 0, 2, .inl (fun _ => 0))), ((h 5), .inl (cy 0, 2, .inl (f 0))), ((h 12), .inl (cy 2, 2, .inl (f 1))), ((h 7), .inl (cy 0, 1200, .inl (fun _ => 0))), ((h 8), .inl (cy 0, 1200, .inl (fun _ => 0))), ((h 20), .inl (cy 2, 8, .inl (fun _ => 0))), ((h 21), .inl (cy 0, 8, .inl (fun _ => 0))), ((h 32), .inl (cy 0, 3, .inl f_4)), ((h 33), .inl (cy 0, 120, .inl (fun _ => 0))), ((h 34), .inl (cy 0, 120, .inl (fun _ => 0))), ((h 35), .inl (cy 0, 24, .inl (fun _ => 0))), ((h 36), .inl (cy 2, 24, .inl (fun _ => 0))), ((h 37), .inl (cy 2, 3, .inl f_5))] H := hP
  replace hD : va_D A [(mo, .inr (12, [.ref (h 0), .ref (h 1), .int 0, .int 0, .int 0, .int (-1), .int 0, .int 0, .int 0, .int 0, .long 0, .ref (h 2), .ref (h 3), .ref (h 4), .ref (h 5), .ref (h 6), .ref (h 7), .ref (h 8), .ref (h 9), .ref (h 10), .ref (h 11), .ref (h 12), .ref (h 13), .ref (h 14), .ref (h 15), .ref (h 16), .ref (h 17), .ref (h 18), .ref (h 19), .int 0, .int 0, .int 0, .int 0, .int 0, .int 0, .ref (h 20), .ref (h 21), .int 0, .ref (h 22), .ref (h 23), .ref (h 24), .ref (h 25), .ref (h 26), .int 0, .int 0, .ref (h 27), .ref (h 28), .ref (h 29), .ref (h 30), .ref (h 31), .int 0, .int 0, .ref (h 32), .ref (h 33), .ref (h 34), .ref (h 35), .ref (h 36), .ref (h 37)])), ((h 0), .inl (cy 1, 1720, .inl (fun _ => 0))), ((h 2), .inl (cy 0, 2, .inl (fun _ => 0))), ((h 3), .inl (cy 0, 2, .inl (fun _ => 0))), ((h 4), .inl (cy 0, 2, .inl (fun _ => 0))), ((h 5), .inl (cy 0, 2, .inl (f 0))), ((h 12), .inl (cy 2, 2, .inl (f 1))), ((h 7), .inl (cy 0, 1200, .inl (fun _ => 0))), ((h 8), .inl (cy 0, 1200, .inl (fun _ => 0))), ((h 20), .inl (cy 2, 8, .inl (fun _ => 0))), ((h 21), .inl (cy 0, 8, .inl (fun _ => 0))), ((h 32), .inl (cy 0, 3, .inl f_4)), ((h 33), .inl (cy 0, 120, .inl (fun _ => 0))), ((h 34), .inl (cy 0, 120, .inl (fun _ => 0))), ((h 35), .inl (cy 0, 24, .inl (fun _ => 0))), ((h 36), .inl (cy 2, 24, .inl (fun _ => 0))), ((h 37), .inl (cy 2, 3, .inl f_5))] := hD
  refine lv_aload_n hx hb dX12_image_60 rfl (lv_at hl 1 rfl) ?_
  refine va_get (ci := 12) (v := .ref (h 34)) (C := RX12) (T := TX12) (N := 58) hx hb ht iX12 hown hK hP 0 rfl rfl 54 (by decide) (ht _ k_306) (fun _ h9 => h9) rfl dX12_image_61 ?_
  refine lv_bipush (v := 40) hx hb dX12_image_64 (by decide) ?_
  refine lv_iload_n hx hb dX12_image_66 rfl (lv_at hl 2 rfl) ?_
  refine lv_imul hx hb dX12_image_67 ?_
  refine ow_top 0 (by decide +kernel) ?_
  refine lv_iload_n hx hb dX12_image_68 rfl (lv_at hl 0 rfl) ?_
  refine lv_iadd hx hb dX12_image_69 ?_
  refine ow_top 10 (by decide +kernel) ?_
  refine lv_aload_n hx hb dX12_image_70 rfl (lv_at hl 1 rfl) ?_
  refine va_get (ci := 12) (v := .ref (h 8)) (C := RX12) (T := TX12) (N := 58) hx hb ht iX12 hown hK hP 0 rfl rfl 17 (by decide) (ht _ k_281) (fun _ h9 => h9) rfl dX12_image_71 ?_
  refine lv_sipush (v := 1120) hx hb dX12_image_74 (by decide) ?_
  refine lv_iload_n hx hb dX12_image_77 rfl (lv_at hl 0 rfl) ?_
  refine lv_iadd hx hb dX12_image_78 ?_
  refine ow_top 1130 (by decide +kernel) ?_
  refine va_iald hx hb hK hP 8 0 rfl rfl (in_lit (by decide +kernel)) dX12_image_79 ?_
  refine ow_top 0 rfl ?_
  refine ow_iastS hx hb hK hP hD hS 13 rfl (in_lit (by decide +kernel)) dX12_image_80 ?_
  clear hP hD hS
  try clear H locs
  intro H locs hP hD hS
  replace hP : va_P G vwCl [(mo, .inr (12, [.ref (h 0), .ref (h 1), .int 0, .int 0, .int 0, .int (-1), .int 0, .int 0, .int 0, .int 0, .long 0, .ref (h 2), .ref (h 3), .ref (h 4), .ref (h 5), .ref (h 6), .ref (h 7), .ref (h 8), .ref (h 9), .ref (h 10), .ref (h 11), .ref (h 12), .ref (h 13), .ref (h 14), .ref (h 15), .ref (h 16), .ref (h 17), .ref (h 18), .ref (h 19), .int 0, .int 0, .int 0, .int 0, .int 0, .int 0, .ref (h 20), .ref (h 21), .int 0, .ref (h 22), .ref (h 23), .ref (h 24), .ref (h 25), .ref (h 26), .int 0, .int 0, .ref (h 27), .ref (h 28), .ref (h 29), .ref (h 30), .ref (h 31), .int 0, .int 0, .ref (h 32), .ref (h 33), .ref (h 34), .ref (h 35), .ref (h 36), .ref (h 37)])), ((h 0), .inl (cy 1, 1720, .inl (fun _ => 0))), ((h 2), .inl (cy 0, 2, .inl (fun _ => 0))), ((h 3), .inl (cy 0, 2, .inl (fun _ => 0))), ((h 4), .inl (cy 0, 2, .inl (fun _ => 0))), ((h 5), .inl (cy 0, 2, .inl (f 0))), ((h 12), .inl (cy 2, 2, .inl (f 1))), ((h 7), .inl (cy 0, 1200, .inl (fun _ => 0))), ((h 8), .inl (cy 0, 1200, .inl (fun _ => 0))), ((h 20), .inl (cy 2, 8, .inl (fun _ => 0))), ((h 21), .inl (cy 0, 8, .inl (fun _ => 0))), ((h 32), .inl (cy 0, 3, .inl f_4)), ((h 33), .inl (cy 0, 120, .inl (fun _ => 0))), ((h 34), .inl (cy 0, 120, .inl (fun _ => 0))), ((h 35), .inl (cy 0, 24, .inl (fun _ => 0))), ((h 36), .inl (cy 2, 24, .inl (fun _ => 0))), ((h 37), .inl (cy 2, 3, .inl f_5))] H := hP
  replace hD : va_D A [(mo, .inr (12, [.ref (h 0), .ref (h 1), .int 0, .int 0, .int 0, .int (-1), .int 0, .int 0, .int 0, .int 0, .long 0, .ref (h 2), .ref (h 3), .ref (h 4), .ref (h 5), .ref (h 6), .ref (h 7), .ref (h 8), .ref (h 9), .ref (h 10), .ref (h 11), .ref (h 12), .ref (h 13), .ref (h 14), .ref (h 15), .ref (h 16), .ref (h 17), .ref (h 18), .ref (h 19), .int 0, .int 0, .int 0, .int 0, .int 0, .int 0, .ref (h 20), .ref (h 21), .int 0, .ref (h 22), .ref (h 23), .ref (h 24), .ref (h 25), .ref (h 26), .int 0, .int 0, .ref (h 27), .ref (h 28), .ref (h 29), .ref (h 30), .ref (h 31), .int 0, .int 0, .ref (h 32), .ref (h 33), .ref (h 34), .ref (h 35), .ref (h 36), .ref (h 37)])), ((h 0), .inl (cy 1, 1720, .inl (fun _ => 0))), ((h 2), .inl (cy 0, 2, .inl (fun _ => 0))), ((h 3), .inl (cy 0, 2, .inl (fun _ => 0))), ((h 4), .inl (cy 0, 2, .inl (fun _ => 0))), ((h 5), .inl (cy 0, 2, .inl (f 0))), ((h 12), .inl (cy 2, 2, .inl (f 1))), ((h 7), .inl (cy 0, 1200, .inl (fun _ => 0))), ((h 8), .inl (cy 0, 1200, .inl (fun _ => 0))), ((h 20), .inl (cy 2, 8, .inl (fun _ => 0))), ((h 21), .inl (cy 0, 8, .inl (fun _ => 0))), ((h 32), .inl (cy 0, 3, .inl f_4)), ((h 33), .inl (cy 0, 120, .inl (fun _ => 0))), ((h 34), .inl (cy 0, 120, .inl (fun _ => 0))), ((h 35), .inl (cy 0, 24, .inl (fun _ => 0))), ((h 36), .inl (cy 2, 24, .inl (fun _ => 0))), ((h 37), .inl (cy 2, 3, .inl f_5))] := hD
  refine lv_iinc (v := 11) (lv' := [(2, .int 11), (0, .ref mo), (1, .int 0)]) hx hb dX12_image_81 hl (k := 0) rfl (by decide) (by decide) rfl ?_
  clear hl
  try clear ls
  intro ls hl
  refine lv_goto (tgt := 33) hx hb dX12_image_84 (by decide) ?_
  refine lv_iload_n hx hb dX12_image_33 rfl (lv_at hl 0 rfl) ?_
  refine lv_bipush (v := 40) hx hb dX12_image_34 (by decide) ?_
  refine lv_icmp_ge (tgt := 87) hx hb dX12_image_36 (by decide) (fun c9 => absurd c9 (by decide)) (fun _ => ?_)
  refine lv_aload_n hx hb dX12_image_39 rfl (lv_at hl 1 rfl) ?_
  refine va_get (ci := 12) (v := .ref (h 33)) (C := RX12) (T := TX12) (N := 58) hx hb ht iX12 hown hK hP 0 rfl rfl 53 (by decide) (ht _ k_305) (fun _ h9 => h9) rfl dX12_image_40 ?_
  refine lv_bipush (v := 40) hx hb dX12_image_43 (by decide) ?_
  refine lv_iload_n hx hb dX12_image_45 rfl (lv_at hl 2 rfl) ?_
  refine lv_imul hx hb dX12_image_46 ?_
  refine ow_top 0 (by decide +kernel) ?_
  refine lv_iload_n hx hb dX12_image_47 rfl (lv_at hl 0 rfl) ?_
  refine lv_iadd hx hb dX12_image_48 ?_
  refine ow_top 11 (by decide +kernel) ?_
  refine lv_aload_n hx hb dX12_image_49 rfl (lv_at hl 1 rfl) ?_
  refine va_get (ci := 12) (v := .ref (h 7)) (C := RX12) (T := TX12) (N := 58) hx hb ht iX12 hown hK hP 0 rfl rfl 16 (by decide) (ht _ k_280) (fun _ h9 => h9) rfl dX12_image_50 ?_
  refine lv_sipush (v := 1120) hx hb dX12_image_53 (by decide) ?_
  refine lv_iload_n hx hb dX12_image_56 rfl (lv_at hl 0 rfl) ?_
  refine lv_iadd hx hb dX12_image_57 ?_
  refine ow_top 1131 (by decide +kernel) ?_
  refine va_iald hx hb hK hP 7 0 rfl rfl (in_lit (by decide +kernel)) dX12_image_58 ?_
  refine ow_top 0 rfl ?_
  refine ow_iastS hx hb hK hP hD hS 12 rfl (in_lit (by decide +kernel)) dX12_image_59 ?_
  clear hP hD hS
  try clear H locs
  intro H locs hP hD hS
  replace hP : va_P G vwCl [(mo, .inr (12, [.ref (h 0), .ref (h 1), .int 0, .int 0, .int 0, .int (-1), .int 0, .int 0, .int 0, .int 0, .long 0, .ref (h 2), .ref (h 3), .ref (h 4), .ref (h 5), .ref (h 6), .ref (h 7), .ref (h 8), .ref (h 9), .ref (h 10), .ref (h 11), .ref (h 12), .ref (h 13), .ref (h 14), .ref (h 15), .ref (h 16), .ref (h 17), .ref (h 18), .ref (h 19), .int 0, .int 0, .int 0, .int 0, .int 0, .int 0, .ref (h 20), .ref (h 21), .int 0, .ref (h 22), .ref (h 23), .ref (h 24), .ref (h 25), .ref (h 26), .int 0, .int 0, .ref (h 27), .ref (h 28), .ref (h 29), .ref (h 30), .ref (h 31), .int 0, .int 0, .ref (h 32), .ref (h 33), .ref (h 34), .ref (h 35), .ref (h 36), .ref (h 37)])), ((h 0), .inl (cy 1, 1720, .inl (fun _ => 0))), ((h 2), .inl (cy 0, 2, .inl (fun _ => 0))), ((h 3), .inl (cy 0, 2, .inl (fun _ => 0))), ((h 4), .inl (cy 0, 2, .inl (fun _ => 0))), ((h 5), .inl (cy 0, 2, .inl (f 0))), ((h 12), .inl (cy 2, 2, .inl (f 1))), ((h 7), .inl (cy 0, 1200, .inl (fun _ => 0))), ((h 8), .inl (cy 0, 1200, .inl (fun _ => 0))), ((h 20), .inl (cy 2, 8, .inl (fun _ => 0))), ((h 21), .inl (cy 0, 8, .inl (fun _ => 0))), ((h 32), .inl (cy 0, 3, .inl f_4)), ((h 33), .inl (cy 0, 120, .inl (fun _ => 0))), ((h 34), .inl (cy 0, 120, .inl (fun _ => 0))), ((h 35), .inl (cy 0, 24, .inl (fun _ => 0))), ((h 36), .inl (cy 2, 24, .inl (fun _ => 0))), ((h 37), .inl (cy 2, 3, .inl f_5))] H := hP
  replace hD : va_D A [(mo, .inr (12, [.ref (h 0), .ref (h 1), .int 0, .int 0, .int 0, .int (-1), .int 0, .int 0, .int 0, .int 0, .long 0, .ref (h 2), .ref (h 3), .ref (h 4), .ref (h 5), .ref (h 6), .ref (h 7), .ref (h 8), .ref (h 9), .ref (h 10), .ref (h 11), .ref (h 12), .ref (h 13), .ref (h 14), .ref (h 15), .ref (h 16), .ref (h 17), .ref (h 18), .ref (h 19), .int 0, .int 0, .int 0, .int 0, .int 0, .int 0, .ref (h 20), .ref (h 21), .int 0, .ref (h 22), .ref (h 23), .ref (h 24), .ref (h 25), .ref (h 26), .int 0, .int 0, .ref (h 27), .ref (h 28), .ref (h 29), .ref (h 30), .ref (h 31), .int 0, .int 0, .ref (h 32), .ref (h 33), .ref (h 34), .ref (h 35), .ref (h 36), .ref (h 37)])), ((h 0), .inl (cy 1, 1720, .inl (fun _ => 0))), ((h 2), .inl (cy 0, 2, .inl (fun _ => 0))), ((h 3), .inl (cy 0, 2, .inl (fun _ => 0))), ((h 4), .inl (cy 0, 2, .inl (fun _ => 0))), ((h 5), .inl (cy 0, 2, .inl (f 0))), ((h 12), .inl (cy 2, 2, .inl (f 1))), ((h 7), .inl (cy 0, 1200, .inl (fun _ => 0))), ((h 8), .inl (cy 0, 1200, .inl (fun _ => 0))), ((h 20), .inl (cy 2, 8, .inl (fun _ => 0))), ((h 21), .inl (cy 0, 8, .inl (fun _ => 0))), ((h 32), .inl (cy 0, 3, .inl f_4)), ((h 33), .inl (cy 0, 120, .inl (fun _ => 0))), ((h 34), .inl (cy 0, 120, .inl (fun _ => 0))), ((h 35), .inl (cy 0, 24, .inl (fun _ => 0))), ((h 36), .inl (cy 2, 24, .inl (fun _ => 0))), ((h 37), .inl (cy 2, 3, .inl f_5))] := hD
  refine lv_aload_n hx hb dX12_image_60 rfl (lv_at hl 1 rfl) ?_
  refine va_get (ci := 12) (v := .ref (h 34)) (C := RX12) (T := TX12) (N := 58) hx hb ht iX12 hown hK hP 0 rfl rfl 54 (by decide) (ht _ k_306) (fun _ h9 => h9) rfl dX12_image_61 ?_
  refine lv_bipush (v := 40) hx hb dX12_image_64 (by decide) ?_
  refine lv_iload_n hx hb dX12_image_66 rfl (lv_at hl 2 rfl) ?_
  refine lv_imul hx hb dX12_image_67 ?_
  refine ow_top 0 (by decide +kernel) ?_
  refine lv_iload_n hx hb dX12_image_68 rfl (lv_at hl 0 rfl) ?_
  refine lv_iadd hx hb dX12_image_69 ?_
  refine ow_top 11 (by decide +kernel) ?_
  refine lv_aload_n hx hb dX12_image_70 rfl (lv_at hl 1 rfl) ?_
  refine va_get (ci := 12) (v := .ref (h 8)) (C := RX12) (T := TX12) (N := 58) hx hb ht iX12 hown hK hP 0 rfl rfl 17 (by decide) (ht _ k_281) (fun _ h9 => h9) rfl dX12_image_71 ?_
  refine lv_sipush (v := 1120) hx hb dX12_image_74 (by decide) ?_
  refine lv_iload_n hx hb dX12_image_77 rfl (lv_at hl 0 rfl) ?_
  refine lv_iadd hx hb dX12_image_78 ?_
  refine ow_top 1131 (by decide +kernel) ?_
  refine va_iald hx hb hK hP 8 0 rfl rfl (in_lit (by decide +kernel)) dX12_image_79 ?_
  refine ow_top 0 rfl ?_
  refine ow_iastS hx hb hK hP hD hS 13 rfl (in_lit (by decide +kernel)) dX12_image_80 ?_
  clear hP hD hS
  try clear H locs
  intro H locs hP hD hS
  replace hP : va_P G vwCl [(mo, .inr (12, [.ref (h 0), .ref (h 1), .int 0, .int 0, .int 0, .int (-1), .int 0, .int 0, .int 0, .int 0, .long 0, .ref (h 2), .ref (h 3), .ref (h 4), .ref (h 5), .ref (h 6), .ref (h 7), .ref (h 8), .ref (h 9), .ref (h 10), .ref (h 11), .ref (h 12), .ref (h 13), .ref (h 14), .ref (h 15), .ref (h 16), .ref (h 17), .ref (h 18), .ref (h 19), .int 0, .int 0, .int 0, .int 0, .int 0, .int 0, .ref (h 20), .ref (h 21), .int 0, .ref (h 22), .ref (h 23), .ref (h 24), .ref (h 25), .ref (h 26), .int 0, .int 0, .ref (h 27), .ref (h 28), .ref (h 29), .ref (h 30), .ref (h 31), .int 0, .int 0, .ref (h 32), .ref (h 33), .ref (h 34), .ref (h 35), .ref (h 36), .ref (h 37)])), ((h 0), .inl (cy 1, 1720, .inl (fun _ => 0))), ((h 2), .inl (cy 0, 2, .inl (fun _ => 0))), ((h 3), .inl (cy 0, 2, .inl (fun _ => 0))), ((h 4), .inl (cy 0, 2, .inl (fun _ => 0))), ((h 5), .inl (cy 0, 2, .inl (f 0))), ((h 12), .inl (cy 2, 2, .inl (f 1))), ((h 7), .inl (cy 0, 1200, .inl (fun _ => 0))), ((h 8), .inl (cy 0, 1200, .inl (fun _ => 0))), ((h 20), .inl (cy 2, 8, .inl (fun _ => 0))), ((h 21), .inl (cy 0, 8, .inl (fun _ => 0))), ((h 32), .inl (cy 0, 3, .inl f_4)), ((h 33), .inl (cy 0, 120, .inl (fun _ => 0))), ((h 34), .inl (cy 0, 120, .inl (fun _ => 0))), ((h 35), .inl (cy 0, 24, .inl (fun _ => 0))), ((h 36), .inl (cy 2, 24, .inl (fun _ => 0))), ((h 37), .inl (cy 2, 3, .inl f_5))] H := hP
  replace hD : va_D A [(mo, .inr (12, [.ref (h 0), .ref (h 1), .int 0, .int 0, .int 0, .int (-1), .int 0, .int 0, .int 0, .int 0, .long 0, .ref (h 2), .ref (h 3), .ref (h 4), .ref (h 5), .ref (h 6), .ref (h 7), .ref (h 8), .ref (h 9), .ref (h 10), .ref (h 11), .ref (h 12), .ref (h 13), .ref (h 14), .ref (h 15), .ref (h 16), .ref (h 17), .ref (h 18), .ref (h 19), .int 0, .int 0, .int 0, .int 0, .int 0, .int 0, .ref (h 20), .ref (h 21), .int 0, .ref (h 22), .ref (h 23), .ref (h 24), .ref (h 25), .ref (h 26), .int 0, .int 0, .ref (h 27), .ref (h 28), .ref (h 29), .ref (h 30), .ref (h 31), .int 0, .int 0, .ref (h 32), .ref (h 33), .ref (h 34), .ref (h 35), .ref (h 36), .ref (h 37)])), ((h 0), .inl (cy 1, 1720, .inl (fun _ => 0))), ((h 2), .inl (cy 0, 2, .inl (fun _ => 0))), ((h 3), .inl (cy 0, 2, .inl (fun _ => 0))), ((h 4), .inl (cy 0, 2, .inl (fun _ => 0))), ((h 5), .inl (cy 0, 2, .inl (f 0))), ((h 12), .inl (cy 2, 2, .inl (f 1))), ((h 7), .inl (cy 0, 1200, .inl (fun _ => 0))), ((h 8), .inl (cy 0, 1200, .inl (fun _ => 0))), ((h 20), .inl (cy 2, 8, .inl (fun _ => 0))), ((h 21), .inl (cy 0, 8, .inl (fun _ => 0))), ((h 32), .inl (cy 0, 3, .inl f_4)), ((h 33), .inl (cy 0, 120, .inl (fun _ => 0))), ((h 34), .inl (cy 0, 120, .inl (fun _ => 0))), ((h 35), .inl (cy 0, 24, .inl (fun _ => 0))), ((h 36), .inl (cy 2, 24, .inl (fun _ => 0))), ((h 37), .inl (cy 2, 3, .inl f_5))] := hD
  refine lv_iinc (v := 12) (lv' := [(2, .int 12), (0, .ref mo), (1, .int 0)]) hx hb dX12_image_81 hl (k := 0) rfl (by decide) (by decide) rfl ?_
  clear hl
  try clear ls
  intro ls hl
  refine lv_goto (tgt := 33) hx hb dX12_image_84 (by decide) ?_
  refine lv_iload_n hx hb dX12_image_33 rfl (lv_at hl 0 rfl) ?_
  refine lv_bipush (v := 40) hx hb dX12_image_34 (by decide) ?_
  refine lv_icmp_ge (tgt := 87) hx hb dX12_image_36 (by decide) (fun c9 => absurd c9 (by decide)) (fun _ => ?_)
  refine lv_aload_n hx hb dX12_image_39 rfl (lv_at hl 1 rfl) ?_
  refine va_get (ci := 12) (v := .ref (h 33)) (C := RX12) (T := TX12) (N := 58) hx hb ht iX12 hown hK hP 0 rfl rfl 53 (by decide) (ht _ k_305) (fun _ h9 => h9) rfl dX12_image_40 ?_
  refine lv_bipush (v := 40) hx hb dX12_image_43 (by decide) ?_
  refine lv_iload_n hx hb dX12_image_45 rfl (lv_at hl 2 rfl) ?_
  refine lv_imul hx hb dX12_image_46 ?_
  refine ow_top 0 (by decide +kernel) ?_
  refine lv_iload_n hx hb dX12_image_47 rfl (lv_at hl 0 rfl) ?_
  refine lv_iadd hx hb dX12_image_48 ?_
  refine ow_top 12 (by decide +kernel) ?_
  refine lv_aload_n hx hb dX12_image_49 rfl (lv_at hl 1 rfl) ?_
  refine va_get (ci := 12) (v := .ref (h 7)) (C := RX12) (T := TX12) (N := 58) hx hb ht iX12 hown hK hP 0 rfl rfl 16 (by decide) (ht _ k_280) (fun _ h9 => h9) rfl dX12_image_50 ?_
  refine lv_sipush (v := 1120) hx hb dX12_image_53 (by decide) ?_
  refine lv_iload_n hx hb dX12_image_56 rfl (lv_at hl 0 rfl) ?_
  refine lv_iadd hx hb dX12_image_57 ?_
  refine ow_top 1132 (by decide +kernel) ?_
  refine va_iald hx hb hK hP 7 0 rfl rfl (in_lit (by decide +kernel)) dX12_image_58 ?_
  refine ow_top 0 rfl ?_
  refine ow_iastS hx hb hK hP hD hS 12 rfl (in_lit (by decide +kernel)) dX12_image_59 ?_
  clear hP hD hS
  try clear H locs
  intro H locs hP hD hS
  replace hP : va_P G vwCl [(mo, .inr (12, [.ref (h 0), .ref (h 1), .int 0, .int 0, .int 0, .int (-1), .int 0, .int 0, .int 0, .int 0, .long 0, .ref (h 2), .ref (h 3), .ref (h 4), .ref (h 5), .ref (h 6), .ref (h 7), .ref (h 8), .ref (h 9), .ref (h 10), .ref (h 11), .ref (h 12), .ref (h 13), .ref (h 14), .ref (h 15), .ref (h 16), .ref (h 17), .ref (h 18), .ref (h 19), .int 0, .int 0, .int 0, .int 0, .int 0, .int 0, .ref (h 20), .ref (h 21), .int 0, .ref (h 22), .ref (h 23), .ref (h 24), .ref (h 25), .ref (h 26), .int 0, .int 0, .ref (h 27), .ref (h 28), .ref (h 29), .ref (h 30), .ref (h 31), .int 0, .int 0, .ref (h 32), .ref (h 33), .ref (h 34), .ref (h 35), .ref (h 36), .ref (h 37)])), ((h 0), .inl (cy 1, 1720, .inl (fun _ => 0))), ((h 2), .inl (cy 0, 2, .inl (fun _ => 0))), ((h 3), .inl (cy 0, 2, .inl (fun _ => 0))), ((h 4), .inl (cy 0, 2, .inl (fun _ => 0))), ((h 5), .inl (cy 0, 2, .inl (f 0))), ((h 12), .inl (cy 2, 2, .inl (f 1))), ((h 7), .inl (cy 0, 1200, .inl (fun _ => 0))), ((h 8), .inl (cy 0, 1200, .inl (fun _ => 0))), ((h 20), .inl (cy 2, 8, .inl (fun _ => 0))), ((h 21), .inl (cy 0, 8, .inl (fun _ => 0))), ((h 32), .inl (cy 0, 3, .inl f_4)), ((h 33), .inl (cy 0, 120, .inl (fun _ => 0))), ((h 34), .inl (cy 0, 120, .inl (fun _ => 0))), ((h 35), .inl (cy 0, 24, .inl (fun _ => 0))), ((h 36), .inl (cy 2, 24, .inl (fun _ => 0))), ((h 37), .inl (cy 2, 3, .inl f_5))] H := hP
  replace hD : va_D A [(mo, .inr (12, [.ref (h 0), .ref (h 1), .int 0, .int 0, .int 0, .int (-1), .int 0, .int 0, .int 0, .int 0, .long 0, .ref (h 2), .ref (h 3), .ref (h 4), .ref (h 5), .ref (h 6), .ref (h 7), .ref (h 8), .ref (h 9), .ref (h 10), .ref (h 11), .ref (h 12), .ref (h 13), .ref (h 14), .ref (h 15), .ref (h 16), .ref (h 17), .ref (h 18), .ref (h 19), .int 0, .int 0, .int 0, .int 0, .int 0, .int 0, .ref (h 20), .ref (h 21), .int 0, .ref (h 22), .ref (h 23), .ref (h 24), .ref (h 25), .ref (h 26), .int 0, .int 0, .ref (h 27), .ref (h 28), .ref (h 29), .ref (h 30), .ref (h 31), .int 0, .int 0, .ref (h 32), .ref (h 33), .ref (h 34), .ref (h 35), .ref (h 36), .ref (h 37)])), ((h 0), .inl (cy 1, 1720, .inl (fun _ => 0))), ((h 2), .inl (cy 0, 2, .inl (fun _ => 0))), ((h 3), .inl (cy 0, 2, .inl (fun _ => 0))), ((h 4), .inl (cy 0, 2, .inl (fun _ => 0))), ((h 5), .inl (cy 0, 2, .inl (f 0))), ((h 12), .inl (cy 2, 2, .inl (f 1))), ((h 7), .inl (cy 0, 1200, .inl (fun _ => 0))), ((h 8), .inl (cy 0, 1200, .inl (fun _ => 0))), ((h 20), .inl (cy 2, 8, .inl (fun _ => 0))), ((h 21), .inl (cy 0, 8, .inl (fun _ => 0))), ((h 32), .inl (cy 0, 3, .inl f_4)), ((h 33), .inl (cy 0, 120, .inl (fun _ => 0))), ((h 34), .inl (cy 0, 120, .inl (fun _ => 0))), ((h 35), .inl (cy 0, 24, .inl (fun _ => 0))), ((h 36), .inl (cy 2, 24, .inl (fun _ => 0))), ((h 37), .inl (cy 2, 3, .inl f_5))] := hD
  refine lv_aload_n hx hb dX12_image_60 rfl (lv_at hl 1 rfl) ?_
  refine va_get (ci := 12) (v := .ref (h 34)) (C := RX12) (T := TX12) (N := 58) hx hb ht iX12 hown hK hP 0 rfl rfl 54 (by decide) (ht _ k_306) (fun _ h9 => h9) rfl dX12_image_61 ?_
  refine lv_bipush (v := 40) hx hb dX12_image_64 (by decide) ?_
  refine lv_iload_n hx hb dX12_image_66 rfl (lv_at hl 2 rfl) ?_
  refine lv_imul hx hb dX12_image_67 ?_
  refine ow_top 0 (by decide +kernel) ?_
  refine lv_iload_n hx hb dX12_image_68 rfl (lv_at hl 0 rfl) ?_
  refine lv_iadd hx hb dX12_image_69 ?_
  refine ow_top 12 (by decide +kernel) ?_
  refine lv_aload_n hx hb dX12_image_70 rfl (lv_at hl 1 rfl) ?_
  refine va_get (ci := 12) (v := .ref (h 8)) (C := RX12) (T := TX12) (N := 58) hx hb ht iX12 hown hK hP 0 rfl rfl 17 (by decide) (ht _ k_281) (fun _ h9 => h9) rfl dX12_image_71 ?_
  refine lv_sipush (v := 1120) hx hb dX12_image_74 (by decide) ?_
  refine lv_iload_n hx hb dX12_image_77 rfl (lv_at hl 0 rfl) ?_
  refine lv_iadd hx hb dX12_image_78 ?_
  refine ow_top 1132 (by decide +kernel) ?_
  refine va_iald hx hb hK hP 8 0 rfl rfl (in_lit (by decide +kernel)) dX12_image_79 ?_
  refine ow_top 0 rfl ?_
  refine ow_iastS hx hb hK hP hD hS 13 rfl (in_lit (by decide +kernel)) dX12_image_80 ?_
  clear hP hD hS
  try clear H locs
  intro H locs hP hD hS
  replace hP : va_P G vwCl [(mo, .inr (12, [.ref (h 0), .ref (h 1), .int 0, .int 0, .int 0, .int (-1), .int 0, .int 0, .int 0, .int 0, .long 0, .ref (h 2), .ref (h 3), .ref (h 4), .ref (h 5), .ref (h 6), .ref (h 7), .ref (h 8), .ref (h 9), .ref (h 10), .ref (h 11), .ref (h 12), .ref (h 13), .ref (h 14), .ref (h 15), .ref (h 16), .ref (h 17), .ref (h 18), .ref (h 19), .int 0, .int 0, .int 0, .int 0, .int 0, .int 0, .ref (h 20), .ref (h 21), .int 0, .ref (h 22), .ref (h 23), .ref (h 24), .ref (h 25), .ref (h 26), .int 0, .int 0, .ref (h 27), .ref (h 28), .ref (h 29), .ref (h 30), .ref (h 31), .int 0, .int 0, .ref (h 32), .ref (h 33), .ref (h 34), .ref (h 35), .ref (h 36), .ref (h 37)])), ((h 0), .inl (cy 1, 1720, .inl (fun _ => 0))), ((h 2), .inl (cy 0, 2, .inl (fun _ => 0))), ((h 3), .inl (cy 0, 2, .inl (fun _ => 0))), ((h 4), .inl (cy 0, 2, .inl (fun _ => 0))), ((h 5), .inl (cy 0, 2, .inl (f 0))), ((h 12), .inl (cy 2, 2, .inl (f 1))), ((h 7), .inl (cy 0, 1200, .inl (fun _ => 0))), ((h 8), .inl (cy 0, 1200, .inl (fun _ => 0))), ((h 20), .inl (cy 2, 8, .inl (fun _ => 0))), ((h 21), .inl (cy 0, 8, .inl (fun _ => 0))), ((h 32), .inl (cy 0, 3, .inl f_4)), ((h 33), .inl (cy 0, 120, .inl (fun _ => 0))), ((h 34), .inl (cy 0, 120, .inl (fun _ => 0))), ((h 35), .inl (cy 0, 24, .inl (fun _ => 0))), ((h 36), .inl (cy 2, 24, .inl (fun _ => 0))), ((h 37), .inl (cy 2, 3, .inl f_5))] H := hP
  replace hD : va_D A [(mo, .inr (12, [.ref (h 0), .ref (h 1), .int 0, .int 0, .int 0, .int (-1), .int 0, .int 0, .int 0, .int 0, .long 0, .ref (h 2), .ref (h 3), .ref (h 4), .ref (h 5), .ref (h 6), .ref (h 7), .ref (h 8), .ref (h 9), .ref (h 10), .ref (h 11), .ref (h 12), .ref (h 13), .ref (h 14), .ref (h 15), .ref (h 16), .ref (h 17), .ref (h 18), .ref (h 19), .int 0, .int 0, .int 0, .int 0, .int 0, .int 0, .ref (h 20), .ref (h 21), .int 0, .ref (h 22), .ref (h 23), .ref (h 24), .ref (h 25), .ref (h 26), .int 0, .int 0, .ref (h 27), .ref (h 28), .ref (h 29), .ref (h 30), .ref (h 31), .int 0, .int 0, .ref (h 32), .ref (h 33), .ref (h 34), .ref (h 35), .ref (h 36), .ref (h 37)])), ((h 0), .inl (cy 1, 1720, .inl (fun _ => 0))), ((h 2), .inl (cy 0, 2, .inl (fun _ => 0))), ((h 3), .inl (cy 0, 2, .inl (fun _ => 0))), ((h 4), .inl (cy 0, 2, .inl (fun _ => 0))), ((h 5), .inl (cy 0, 2, .inl (f 0))), ((h 12), .inl (cy 2, 2, .inl (f 1))), ((h 7), .inl (cy 0, 1200, .inl (fun _ => 0))), ((h 8), .inl (cy 0, 1200, .inl (fun _ => 0))), ((h 20), .inl (cy 2, 8, .inl (fun _ => 0))), ((h 21), .inl (cy 0, 8, .inl (fun _ => 0))), ((h 32), .inl (cy 0, 3, .inl f_4)), ((h 33), .inl (cy 0, 120, .inl (fun _ => 0))), ((h 34), .inl (cy 0, 120, .inl (fun _ => 0))), ((h 35), .inl (cy 0, 24, .inl (fun _ => 0))), ((h 36), .inl (cy 2, 24, .inl (fun _ => 0))), ((h 37), .inl (cy 2, 3, .inl f_5))] := hD
  refine lv_iinc (v := 13) (lv' := [(2, .int 13), (0, .ref mo), (1, .int 0)]) hx hb dX12_image_81 hl (k := 0) rfl (by decide) (by decide) rfl ?_
  clear hl
  try clear ls
  intro ls hl
  refine lv_goto (tgt := 33) hx hb dX12_image_84 (by decide) ?_
  refine lv_iload_n hx hb dX12_image_33 rfl (lv_at hl 0 rfl) ?_
  refine lv_bipush (v := 40) hx hb dX12_image_34 (by decide) ?_
  refine lv_icmp_ge (tgt := 87) hx hb dX12_image_36 (by decide) (fun c9 => absurd c9 (by decide)) (fun _ => ?_)
  refine lv_aload_n hx hb dX12_image_39 rfl (lv_at hl 1 rfl) ?_
  refine va_get (ci := 12) (v := .ref (h 33)) (C := RX12) (T := TX12) (N := 58) hx hb ht iX12 hown hK hP 0 rfl rfl 53 (by decide) (ht _ k_305) (fun _ h9 => h9) rfl dX12_image_40 ?_
  refine lv_bipush (v := 40) hx hb dX12_image_43 (by decide) ?_
  refine lv_iload_n hx hb dX12_image_45 rfl (lv_at hl 2 rfl) ?_
  refine lv_imul hx hb dX12_image_46 ?_
  refine ow_top 0 (by decide +kernel) ?_
  refine lv_iload_n hx hb dX12_image_47 rfl (lv_at hl 0 rfl) ?_
  refine lv_iadd hx hb dX12_image_48 ?_
  refine ow_top 13 (by decide +kernel) ?_
  refine lv_aload_n hx hb dX12_image_49 rfl (lv_at hl 1 rfl) ?_
  refine va_get (ci := 12) (v := .ref (h 7)) (C := RX12) (T := TX12) (N := 58) hx hb ht iX12 hown hK hP 0 rfl rfl 16 (by decide) (ht _ k_280) (fun _ h9 => h9) rfl dX12_image_50 ?_
  refine lv_sipush (v := 1120) hx hb dX12_image_53 (by decide) ?_
  refine lv_iload_n hx hb dX12_image_56 rfl (lv_at hl 0 rfl) ?_
  refine lv_iadd hx hb dX12_image_57 ?_
  refine ow_top 1133 (by decide +kernel) ?_
  refine va_iald hx hb hK hP 7 0 rfl rfl (in_lit (by decide +kernel)) dX12_image_58 ?_
  refine ow_top 0 rfl ?_
  refine ow_iastS hx hb hK hP hD hS 12 rfl (in_lit (by decide +kernel)) dX12_image_59 ?_
  clear hP hD hS
  try clear H locs
  intro H locs hP hD hS
  replace hP : va_P G vwCl [(mo, .inr (12, [.ref (h 0), .ref (h 1), .int 0, .int 0, .int 0, .int (-1), .int 0, .int 0, .int 0, .int 0, .long 0, .ref (h 2), .ref (h 3), .ref (h 4), .ref (h 5), .ref (h 6), .ref (h 7), .ref (h 8), .ref (h 9), .ref (h 10), .ref (h 11), .ref (h 12), .ref (h 13), .ref (h 14), .ref (h 15), .ref (h 16), .ref (h 17), .ref (h 18), .ref (h 19), .int 0, .int 0, .int 0, .int 0, .int 0, .int 0, .ref (h 20), .ref (h 21), .int 0, .ref (h 22), .ref (h 23), .ref (h 24), .ref (h 25), .ref (h 26), .int 0, .int 0, .ref (h 27), .ref (h 28), .ref (h 29), .ref (h 30), .ref (h 31), .int 0, .int 0, .ref (h 32), .ref (h 33), .ref (h 34), .ref (h 35), .ref (h 36), .ref (h 37)])), ((h 0), .inl (cy 1, 1720, .inl (fun _ => 0))), ((h 2), .inl (cy 0, 2, .inl (fun _ => 0))), ((h 3), .inl (cy 0, 2, .inl (fun _ => 0))), ((h 4), .inl (cy 0, 2, .inl (fun _ => 0))), ((h 5), .inl (cy 0, 2, .inl (f 0))), ((h 12), .inl (cy 2, 2, .inl (f 1))), ((h 7), .inl (cy 0, 1200, .inl (fun _ => 0))), ((h 8), .inl (cy 0, 1200, .inl (fun _ => 0))), ((h 20), .inl (cy 2, 8, .inl (fun _ => 0))), ((h 21), .inl (cy 0, 8, .inl (fun _ => 0))), ((h 32), .inl (cy 0, 3, .inl f_4)), ((h 33), .inl (cy 0, 120, .inl (fun _ => 0))), ((h 34), .inl (cy 0, 120, .inl (fun _ => 0))), ((h 35), .inl (cy 0, 24, .inl (fun _ => 0))), ((h 36), .inl (cy 2, 24, .inl (fun _ => 0))), ((h 37), .inl (cy 2, 3, .inl f_5))] H := hP
  replace hD : va_D A [(mo, .inr (12, [.ref (h 0), .ref (h 1), .int 0, .int 0, .int 0, .int (-1), .int 0, .int 0, .int 0, .int 0, .long 0, .ref (h 2), .ref (h 3), .ref (h 4), .ref (h 5), .ref (h 6), .ref (h 7), .ref (h 8), .ref (h 9), .ref (h 10), .ref (h 11), .ref (h 12), .ref (h 13), .ref (h 14), .ref (h 15), .ref (h 16), .ref (h 17), .ref (h 18), .ref (h 19), .int 0, .int 0, .int 0, .int 0, .int 0, .int 0, .ref (h 20), .ref (h 21), .int 0, .ref (h 22), .ref (h 23), .ref (h 24), .ref (h 25), .ref (h 26), .int 0, .int 0, .ref (h 27), .ref (h 28), .ref (h 29), .ref (h 30), .ref (h 31), .int 0, .int 0, .ref (h 32), .ref (h 33), .ref (h 34), .ref (h 35), .ref (h 36), .ref (h 37)])), ((h 0), .inl (cy 1, 1720, .inl (fun _ => 0))), ((h 2), .inl (cy 0, 2, .inl (fun _ => 0))), ((h 3), .inl (cy 0, 2, .inl (fun _ => 0))), ((h 4), .inl (cy 0, 2, .inl (fun _ => 0))), ((h 5), .inl (cy 0, 2, .inl (f 0))), ((h 12), .inl (cy 2, 2, .inl (f 1))), ((h 7), .inl (cy 0, 1200, .inl (fun _ => 0))), ((h 8), .inl (cy 0, 1200, .inl (fun _ => 0))), ((h 20), .inl (cy 2, 8, .inl (fun _ => 0))), ((h 21), .inl (cy 0, 8, .inl (fun _ => 0))), ((h 32), .inl (cy 0, 3, .inl f_4)), ((h 33), .inl (cy 0, 120, .inl (fun _ => 0))), ((h 34), .inl (cy 0, 120, .inl (fun _ => 0))), ((h 35), .inl (cy 0, 24, .inl (fun _ => 0))), ((h 36), .inl (cy 2, 24, .inl (fun _ => 0))), ((h 37), .inl (cy 2, 3, .inl f_5))] := hD
  refine lv_aload_n hx hb dX12_image_60 rfl (lv_at hl 1 rfl) ?_
  refine va_get (ci := 12) (v := .ref (h 34)) (C := RX12) (T := TX12) (N := 58) hx hb ht iX12 hown hK hP 0 rfl rfl 54 (by decide) (ht _ k_306) (fun _ h9 => h9) rfl dX12_image_61 ?_
  refine lv_bipush (v := 40) hx hb dX12_image_64 (by decide) ?_
  refine lv_iload_n hx hb dX12_image_66 rfl (lv_at hl 2 rfl) ?_
  refine lv_imul hx hb dX12_image_67 ?_
  refine ow_top 0 (by decide +kernel) ?_
  refine lv_iload_n hx hb dX12_image_68 rfl (lv_at hl 0 rfl) ?_
  refine lv_iadd hx hb dX12_image_69 ?_
  refine ow_top 13 (by decide +kernel) ?_
  refine lv_aload_n hx hb dX12_image_70 rfl (lv_at hl 1 rfl) ?_
  refine va_get (ci := 12) (v := .ref (h 8)) (C := RX12) (T := TX12) (N := 58) hx hb ht iX12 hown hK hP 0 rfl rfl 17 (by decide) (ht _ k_281) (fun _ h9 => h9) rfl dX12_image_71 ?_
  refine lv_sipush (v := 1120) hx hb dX12_image_74 (by decide) ?_
  refine lv_iload_n hx hb dX12_image_77 rfl (lv_at hl 0 rfl) ?_
  refine lv_iadd hx hb dX12_image_78 ?_
  refine ow_top 1133 (by decide +kernel) ?_
  refine va_iald hx hb hK hP 8 0 rfl rfl (in_lit (by decide +kernel)) dX12_image_79 ?_
  refine ow_top 0 rfl ?_
  refine ow_iastS hx hb hK hP hD hS 13 rfl (in_lit (by decide +kernel)) dX12_image_80 ?_
  clear hP hD hS
  try clear H locs
  intro H locs hP hD hS
  replace hP : va_P G vwCl [(mo, .inr (12, [.ref (h 0), .ref (h 1), .int 0, .int 0, .int 0, .int (-1), .int 0, .int 0, .int 0, .int 0, .long 0, .ref (h 2), .ref (h 3), .ref (h 4), .ref (h 5), .ref (h 6), .ref (h 7), .ref (h 8), .ref (h 9), .ref (h 10), .ref (h 11), .ref (h 12), .ref (h 13), .ref (h 14), .ref (h 15), .ref (h 16), .ref (h 17), .ref (h 18), .ref (h 19), .int 0, .int 0, .int 0, .int 0, .int 0, .int 0, .ref (h 20), .ref (h 21), .int 0, .ref (h 22), .ref (h 23), .ref (h 24), .ref (h 25), .ref (h 26), .int 0, .int 0, .ref (h 27), .ref (h 28), .ref (h 29), .ref (h 30), .ref (h 31), .int 0, .int 0, .ref (h 32), .ref (h 33), .ref (h 34), .ref (h 35), .ref (h 36), .ref (h 37)])), ((h 0), .inl (cy 1, 1720, .inl (fun _ => 0))), ((h 2), .inl (cy 0, 2, .inl (fun _ => 0))), ((h 3), .inl (cy 0, 2, .inl (fun _ => 0))), ((h 4), .inl (cy 0, 2, .inl (fun _ => 0))), ((h 5), .inl (cy 0, 2, .inl (f 0))), ((h 12), .inl (cy 2, 2, .inl (f 1))), ((h 7), .inl (cy 0, 1200, .inl (fun _ => 0))), ((h 8), .inl (cy 0, 1200, .inl (fun _ => 0))), ((h 20), .inl (cy 2, 8, .inl (fun _ => 0))), ((h 21), .inl (cy 0, 8, .inl (fun _ => 0))), ((h 32), .inl (cy 0, 3, .inl f_4)), ((h 33), .inl (cy 0, 120, .inl (fun _ => 0))), ((h 34), .inl (cy 0, 120, .inl (fun _ => 0))), ((h 35), .inl (cy 0, 24, .inl (fun _ => 0))), ((h 36), .inl (cy 2, 24, .inl (fun _ => 0))), ((h 37), .inl (cy 2, 3, .inl f_5))] H := hP
  replace hD : va_D A [(mo, .inr (12, [.ref (h 0), .ref (h 1), .int 0, .int 0, .int 0, .int (-1), .int 0, .int 0, .int 0, .int 0, .long 0, .ref (h 2), .ref (h 3), .ref (h 4), .ref (h 5), .ref (h 6), .ref (h 7), .ref (h 8), .ref (h 9), .ref (h 10), .ref (h 11), .ref (h 12), .ref (h 13), .ref (h 14), .ref (h 15), .ref (h 16), .ref (h 17), .ref (h 18), .ref (h 19), .int 0, .int 0, .int 0, .int 0, .int 0, .int 0, .ref (h 20), .ref (h 21), .int 0, .ref (h 22), .ref (h 23), .ref (h 24), .ref (h 25), .ref (h 26), .int 0, .int 0, .ref (h 27), .ref (h 28), .ref (h 29), .ref (h 30), .ref (h 31), .int 0, .int 0, .ref (h 32), .ref (h 33), .ref (h 34), .ref (h 35), .ref (h 36), .ref (h 37)])), ((h 0), .inl (cy 1, 1720, .inl (fun _ => 0))), ((h 2), .inl (cy 0, 2, .inl (fun _ => 0))), ((h 3), .inl (cy 0, 2, .inl (fun _ => 0))), ((h 4), .inl (cy 0, 2, .inl (fun _ => 0))), ((h 5), .inl (cy 0, 2, .inl (f 0))), ((h 12), .inl (cy 2, 2, .inl (f 1))), ((h 7), .inl (cy 0, 1200, .inl (fun _ => 0))), ((h 8), .inl (cy 0, 1200, .inl (fun _ => 0))), ((h 20), .inl (cy 2, 8, .inl (fun _ => 0))), ((h 21), .inl (cy 0, 8, .inl (fun _ => 0))), ((h 32), .inl (cy 0, 3, .inl f_4)), ((h 33), .inl (cy 0, 120, .inl (fun _ => 0))), ((h 34), .inl (cy 0, 120, .inl (fun _ => 0))), ((h 35), .inl (cy 0, 24, .inl (fun _ => 0))), ((h 36), .inl (cy 2, 24, .inl (fun _ => 0))), ((h 37), .inl (cy 2, 3, .inl f_5))] := hD
  refine lv_iinc (v := 14) (lv' := [(2, .int 14), (0, .ref mo), (1, .int 0)]) hx hb dX12_image_81 hl (k := 0) rfl (by decide) (by decide) rfl ?_
  clear hl
  try clear ls
  intro ls hl
  refine lv_goto (tgt := 33) hx hb dX12_image_84 (by decide) ?_
  refine lv_iload_n hx hb dX12_image_33 rfl (lv_at hl 0 rfl) ?_
  refine lv_bipush (v := 40) hx hb dX12_image_34 (by decide) ?_
  refine lv_icmp_ge (tgt := 87) hx hb dX12_image_36 (by decide) (fun c9 => absurd c9 (by decide)) (fun _ => ?_)
  refine lv_aload_n hx hb dX12_image_39 rfl (lv_at hl 1 rfl) ?_
  refine va_get (ci := 12) (v := .ref (h 33)) (C := RX12) (T := TX12) (N := 58) hx hb ht iX12 hown hK hP 0 rfl rfl 53 (by decide) (ht _ k_305) (fun _ h9 => h9) rfl dX12_image_40 ?_
  refine lv_bipush (v := 40) hx hb dX12_image_43 (by decide) ?_
  refine lv_iload_n hx hb dX12_image_45 rfl (lv_at hl 2 rfl) ?_
  refine lv_imul hx hb dX12_image_46 ?_
  refine ow_top 0 (by decide +kernel) ?_
  refine lv_iload_n hx hb dX12_image_47 rfl (lv_at hl 0 rfl) ?_
  refine lv_iadd hx hb dX12_image_48 ?_
  refine ow_top 14 (by decide +kernel) ?_
  refine lv_aload_n hx hb dX12_image_49 rfl (lv_at hl 1 rfl) ?_
  refine va_get (ci := 12) (v := .ref (h 7)) (C := RX12) (T := TX12) (N := 58) hx hb ht iX12 hown hK hP 0 rfl rfl 16 (by decide) (ht _ k_280) (fun _ h9 => h9) rfl dX12_image_50 ?_
  refine lv_sipush (v := 1120) hx hb dX12_image_53 (by decide) ?_
  refine lv_iload_n hx hb dX12_image_56 rfl (lv_at hl 0 rfl) ?_
  refine lv_iadd hx hb dX12_image_57 ?_
  refine ow_top 1134 (by decide +kernel) ?_
  refine va_iald hx hb hK hP 7 0 rfl rfl (in_lit (by decide +kernel)) dX12_image_58 ?_
  refine ow_top 0 rfl ?_
  refine ow_iastS hx hb hK hP hD hS 12 rfl (in_lit (by decide +kernel)) dX12_image_59 ?_
  clear hP hD hS
  try clear H locs
  intro H locs hP hD hS
  replace hP : va_P G vwCl [(mo, .inr (12, [.ref (h 0), .ref (h 1), .int 0, .int 0, .int 0, .int (-1), .int 0, .int 0, .int 0, .int 0, .long 0, .ref (h 2), .ref (h 3), .ref (h 4), .ref (h 5), .ref (h 6), .ref (h 7), .ref (h 8), .ref (h 9), .ref (h 10), .ref (h 11), .ref (h 12), .ref (h 13), .ref (h 14), .ref (h 15), .ref (h 16), .ref (h 17), .ref (h 18), .ref (h 19), .int 0, .int 0, .int 0, .int 0, .int 0, .int 0, .ref (h 20), .ref (h 21), .int 0, .ref (h 22), .ref (h 23), .ref (h 24), .ref (h 25), .ref (h 26), .int 0, .int 0, .ref (h 27), .ref (h 28), .ref (h 29), .ref (h 30), .ref (h 31), .int 0, .int 0, .ref (h 32), .ref (h 33), .ref (h 34), .ref (h 35), .ref (h 36), .ref (h 37)])), ((h 0), .inl (cy 1, 1720, .inl (fun _ => 0))), ((h 2), .inl (cy 0, 2, .inl (fun _ => 0))), ((h 3), .inl (cy 0, 2, .inl (fun _ => 0))), ((h 4), .inl (cy 0, 2, .inl (fun _ => 0))), ((h 5), .inl (cy 0, 2, .inl (f 0))), ((h 12), .inl (cy 2, 2, .inl (f 1))), ((h 7), .inl (cy 0, 1200, .inl (fun _ => 0))), ((h 8), .inl (cy 0, 1200, .inl (fun _ => 0))), ((h 20), .inl (cy 2, 8, .inl (fun _ => 0))), ((h 21), .inl (cy 0, 8, .inl (fun _ => 0))), ((h 32), .inl (cy 0, 3, .inl f_4)), ((h 33), .inl (cy 0, 120, .inl (fun _ => 0))), ((h 34), .inl (cy 0, 120, .inl (fun _ => 0))), ((h 35), .inl (cy 0, 24, .inl (fun _ => 0))), ((h 36), .inl (cy 2, 24, .inl (fun _ => 0))), ((h 37), .inl (cy 2, 3, .inl f_5))] H := hP
  replace hD : va_D A [(mo, .inr (12, [.ref (h 0), .ref (h 1), .int 0, .int 0, .int 0, .int (-1), .int 0, .int 0, .int 0, .int 0, .long 0, .ref (h 2), .ref (h 3), .ref (h 4), .ref (h 5), .ref (h 6), .ref (h 7), .ref (h 8), .ref (h 9), .ref (h 10), .ref (h 11), .ref (h 12), .ref (h 13), .ref (h 14), .ref (h 15), .ref (h 16), .ref (h 17), .ref (h 18), .ref (h 19), .int 0, .int 0, .int 0, .int 0, .int 0, .int 0, .ref (h 20), .ref (h 21), .int 0, .ref (h 22), .ref (h 23), .ref (h 24), .ref (h 25), .ref (h 26), .int 0, .int 0, .ref (h 27), .ref (h 28), .ref (h 29), .ref (h 30), .ref (h 31), .int 0, .int 0, .ref (h 32), .ref (h 33), .ref (h 34), .ref (h 35), .ref (h 36), .ref (h 37)])), ((h 0), .inl (cy 1, 1720, .inl (fun _ => 0))), ((h 2), .inl (cy 0, 2, .inl (fun _ => 0))), ((h 3), .inl (cy 0, 2, .inl (fun _ => 0))), ((h 4), .inl (cy 0, 2, .inl (fun _ => 0))), ((h 5), .inl (cy 0, 2, .inl (f 0))), ((h 12), .inl (cy 2, 2, .inl (f 1))), ((h 7), .inl (cy 0, 1200, .inl (fun _ => 0))), ((h 8), .inl (cy 0, 1200, .inl (fun _ => 0))), ((h 20), .inl (cy 2, 8, .inl (fun _ => 0))), ((h 21), .inl (cy 0, 8, .inl (fun _ => 0))), ((h 32), .inl (cy 0, 3, .inl f_4)), ((h 33), .inl (cy 0, 120, .inl (fun _ => 0))), ((h 34), .inl (cy 0, 120, .inl (fun _ => 0))), ((h 35), .inl (cy 0, 24, .inl (fun _ => 0))), ((h 36), .inl (cy 2, 24, .inl (fun _ => 0))), ((h 37), .inl (cy 2, 3, .inl f_5))] := hD
  refine lv_aload_n hx hb dX12_image_60 rfl (lv_at hl 1 rfl) ?_
  refine va_get (ci := 12) (v := .ref (h 34)) (C := RX12) (T := TX12) (N := 58) hx hb ht iX12 hown hK hP 0 rfl rfl 54 (by decide) (ht _ k_306) (fun _ h9 => h9) rfl dX12_image_61 ?_
  refine lv_bipush (v := 40) hx hb dX12_image_64 (by decide) ?_
  refine lv_iload_n hx hb dX12_image_66 rfl (lv_at hl 2 rfl) ?_
  refine lv_imul hx hb dX12_image_67 ?_
  refine ow_top 0 (by decide +kernel) ?_
  refine lv_iload_n hx hb dX12_image_68 rfl (lv_at hl 0 rfl) ?_
  refine lv_iadd hx hb dX12_image_69 ?_
  refine ow_top 14 (by decide +kernel) ?_
  refine lv_aload_n hx hb dX12_image_70 rfl (lv_at hl 1 rfl) ?_
  refine va_get (ci := 12) (v := .ref (h 8)) (C := RX12) (T := TX12) (N := 58) hx hb ht iX12 hown hK hP 0 rfl rfl 17 (by decide) (ht _ k_281) (fun _ h9 => h9) rfl dX12_image_71 ?_
  refine lv_sipush (v := 1120) hx hb dX12_image_74 (by decide) ?_
  refine lv_iload_n hx hb dX12_image_77 rfl (lv_at hl 0 rfl) ?_
  refine lv_iadd hx hb dX12_image_78 ?_
  refine ow_top 1134 (by decide +kernel) ?_
  refine va_iald hx hb hK hP 8 0 rfl rfl (in_lit (by decide +kernel)) dX12_image_79 ?_
  refine ow_top 0 rfl ?_
  refine ow_iastS hx hb hK hP hD hS 13 rfl (in_lit (by decide +kernel)) dX12_image_80 ?_
  clear hP hD hS
  try clear H locs
  intro H locs hP hD hS
  replace hP : va_P G vwCl [(mo, .inr (12, [.ref (h 0), .ref (h 1), .int 0, .int 0, .int 0, .int (-1), .int 0, .int 0, .int 0, .int 0, .long 0, .ref (h 2), .ref (h 3), .ref (h 4), .ref (h 5), .ref (h 6), .ref (h 7), .ref (h 8), .ref (h 9), .ref (h 10), .ref (h 11), .ref (h 12), .ref (h 13), .ref (h 14), .ref (h 15), .ref (h 16), .ref (h 17), .ref (h 18), .ref (h 19), .int 0, .int 0, .int 0, .int 0, .int 0, .int 0, .ref (h 20), .ref (h 21), .int 0, .ref (h 22), .ref (h 23), .ref (h 24), .ref (h 25), .ref (h 26), .int 0, .int 0, .ref (h 27), .ref (h 28), .ref (h 29), .ref (h 30), .ref (h 31), .int 0, .int 0, .ref (h 32), .ref (h 33), .ref (h 34), .ref (h 35), .ref (h 36), .ref (h 37)])), ((h 0), .inl (cy 1, 1720, .inl (fun _ => 0))), ((h 2), .inl (cy 0, 2, .inl (fun _ => 0))), ((h 3), .inl (cy 0, 2, .inl (fun _ => 0))), ((h 4), .inl (cy 0, 2, .inl (fun _ => 0))), ((h 5), .inl (cy 0, 2, .inl (f 0))), ((h 12), .inl (cy 2, 2, .inl (f 1))), ((h 7), .inl (cy 0, 1200, .inl (fun _ => 0))), ((h 8), .inl (cy 0, 1200, .inl (fun _ => 0))), ((h 20), .inl (cy 2, 8, .inl (fun _ => 0))), ((h 21), .inl (cy 0, 8, .inl (fun _ => 0))), ((h 32), .inl (cy 0, 3, .inl f_4)), ((h 33), .inl (cy 0, 120, .inl (fun _ => 0))), ((h 34), .inl (cy 0, 120, .inl (fun _ => 0))), ((h 35), .inl (cy 0, 24, .inl (fun _ => 0))), ((h 36), .inl (cy 2, 24, .inl (fun _ => 0))), ((h 37), .inl (cy 2, 3, .inl f_5))] H := hP
  replace hD : va_D A [(mo, .inr (12, [.ref (h 0), .ref (h 1), .int 0, .int 0, .int 0, .int (-1), .int 0, .int 0, .int 0, .int 0, .long 0, .ref (h 2), .ref (h 3), .ref (h 4), .ref (h 5), .ref (h 6), .ref (h 7), .ref (h 8), .ref (h 9), .ref (h 10), .ref (h 11), .ref (h 12), .ref (h 13), .ref (h 14), .ref (h 15), .ref (h 16), .ref (h 17), .ref (h 18), .ref (h 19), .int 0, .int 0, .int 0, .int 0, .int 0, .int 0, .ref (h 20), .ref (h 21), .int 0, .ref (h 22), .ref (h 23), .ref (h 24), .ref (h 25), .ref (h 26), .int 0, .int 0, .ref (h 27), .ref (h 28), .ref (h 29), .ref (h 30), .ref (h 31), .int 0, .int 0, .ref (h 32), .ref (h 33), .ref (h 34), .ref (h 35), .ref (h 36), .ref (h 37)])), ((h 0), .inl (cy 1, 1720, .inl (fun _ => 0))), ((h 2), .inl (cy 0, 2, .inl (fun _ => 0))), ((h 3), .inl (cy 0, 2, .inl (fun _ => 0))), ((h 4), .inl (cy 0, 2, .inl (fun _ => 0))), ((h 5), .inl (cy 0, 2, .inl (f 0))), ((h 12), .inl (cy 2, 2, .inl (f 1))), ((h 7), .inl (cy 0, 1200, .inl (fun _ => 0))), ((h 8), .inl (cy 0, 1200, .inl (fun _ => 0))), ((h 20), .inl (cy 2, 8, .inl (fun _ => 0))), ((h 21), .inl (cy 0, 8, .inl (fun _ => 0))), ((h 32), .inl (cy 0, 3, .inl f_4)), ((h 33), .inl (cy 0, 120, .inl (fun _ => 0))), ((h 34), .inl (cy 0, 120, .inl (fun _ => 0))), ((h 35), .inl (cy 0, 24, .inl (fun _ => 0))), ((h 36), .inl (cy 2, 24, .inl (fun _ => 0))), ((h 37), .inl (cy 2, 3, .inl f_5))] := hD
  refine lv_iinc (v := 15) (lv' := [(2, .int 15), (0, .ref mo), (1, .int 0)]) hx hb dX12_image_81 hl (k := 0) rfl (by decide) (by decide) rfl ?_
  clear hl
  try clear ls
  intro ls hl
  refine lv_goto (tgt := 33) hx hb dX12_image_84 (by decide) ?_
  refine lv_iload_n hx hb dX12_image_33 rfl (lv_at hl 0 rfl) ?_
  refine lv_bipush (v := 40) hx hb dX12_image_34 (by decide) ?_
  refine lv_icmp_ge (tgt := 87) hx hb dX12_image_36 (by decide) (fun c9 => absurd c9 (by decide)) (fun _ => ?_)
  refine lv_aload_n hx hb dX12_image_39 rfl (lv_at hl 1 rfl) ?_
  refine va_get (ci := 12) (v := .ref (h 33)) (C := RX12) (T := TX12) (N := 58) hx hb ht iX12 hown hK hP 0 rfl rfl 53 (by decide) (ht _ k_305) (fun _ h9 => h9) rfl dX12_image_40 ?_
  refine lv_bipush (v := 40) hx hb dX12_image_43 (by decide) ?_
  refine lv_iload_n hx hb dX12_image_45 rfl (lv_at hl 2 rfl) ?_
  refine lv_imul hx hb dX12_image_46 ?_
  refine ow_top 0 (by decide +kernel) ?_
  refine lv_iload_n hx hb dX12_image_47 rfl (lv_at hl 0 rfl) ?_
  refine lv_iadd hx hb dX12_image_48 ?_
  refine ow_top 15 (by decide +kernel) ?_
  refine lv_aload_n hx hb dX12_image_49 rfl (lv_at hl 1 rfl) ?_
  refine va_get (ci := 12) (v := .ref (h 7)) (C := RX12) (T := TX12) (N := 58) hx hb ht iX12 hown hK hP 0 rfl rfl 16 (by decide) (ht _ k_280) (fun _ h9 => h9) rfl dX12_image_50 ?_
  refine lv_sipush (v := 1120) hx hb dX12_image_53 (by decide) ?_
  refine lv_iload_n hx hb dX12_image_56 rfl (lv_at hl 0 rfl) ?_
  refine lv_iadd hx hb dX12_image_57 ?_
  refine ow_top 1135 (by decide +kernel) ?_
  refine va_iald hx hb hK hP 7 0 rfl rfl (in_lit (by decide +kernel)) dX12_image_58 ?_
  refine ow_top 0 rfl ?_
  refine ow_iastS hx hb hK hP hD hS 12 rfl (in_lit (by decide +kernel)) dX12_image_59 ?_
  clear hP hD hS
  try clear H locs
  intro H locs hP hD hS
  replace hP : va_P G vwCl [(mo, .inr (12, [.ref (h 0), .ref (h 1), .int 0, .int 0, .int 0, .int (-1), .int 0, .int 0, .int 0, .int 0, .long 0, .ref (h 2), .ref (h 3), .ref (h 4), .ref (h 5), .ref (h 6), .ref (h 7), .ref (h 8), .ref (h 9), .ref (h 10), .ref (h 11), .ref (h 12), .ref (h 13), .ref (h 14), .ref (h 15), .ref (h 16), .ref (h 17), .ref (h 18), .ref (h 19), .int 0, .int 0, .int 0, .int 0, .int 0, .int 0, .ref (h 20), .ref (h 21), .int 0, .ref (h 22), .ref (h 23), .ref (h 24), .ref (h 25), .ref (h 26), .int 0, .int 0, .ref (h 27), .ref (h 28), .ref (h 29), .ref (h 30), .ref (h 31), .int 0, .int 0, .ref (h 32), .ref (h 33), .ref (h 34), .ref (h 35), .ref (h 36), .ref (h 37)])), ((h 0), .inl (cy 1, 1720, .inl (fun _ => 0))), ((h 2), .inl (cy 0, 2, .inl (fun _ => 0))), ((h 3), .inl (cy 0, 2, .inl (fun _ => 0))), ((h 4), .inl (cy 0, 2, .inl (fun _ => 0))), ((h 5), .inl (cy 0, 2, .inl (f 0))), ((h 12), .inl (cy 2, 2, .inl (f 1))), ((h 7), .inl (cy 0, 1200, .inl (fun _ => 0))), ((h 8), .inl (cy 0, 1200, .inl (fun _ => 0))), ((h 20), .inl (cy 2, 8, .inl (fun _ => 0))), ((h 21), .inl (cy 0, 8, .inl (fun _ => 0))), ((h 32), .inl (cy 0, 3, .inl f_4)), ((h 33), .inl (cy 0, 120, .inl (fun _ => 0))), ((h 34), .inl (cy 0, 120, .inl (fun _ => 0))), ((h 35), .inl (cy 0, 24, .inl (fun _ => 0))), ((h 36), .inl (cy 2, 24, .inl (fun _ => 0))), ((h 37), .inl (cy 2, 3, .inl f_5))] H := hP
  replace hD : va_D A [(mo, .inr (12, [.ref (h 0), .ref (h 1), .int 0, .int 0, .int 0, .int (-1), .int 0, .int 0, .int 0, .int 0, .long 0, .ref (h 2), .ref (h 3), .ref (h 4), .ref (h 5), .ref (h 6), .ref (h 7), .ref (h 8), .ref (h 9), .ref (h 10), .ref (h 11), .ref (h 12), .ref (h 13), .ref (h 14), .ref (h 15), .ref (h 16), .ref (h 17), .ref (h 18), .ref (h 19), .int 0, .int 0, .int 0, .int 0, .int 0, .int 0, .ref (h 20), .ref (h 21), .int 0, .ref (h 22), .ref (h 23), .ref (h 24), .ref (h 25), .ref (h 26), .int 0, .int 0, .ref (h 27), .ref (h 28), .ref (h 29), .ref (h 30), .ref (h 31), .int 0, .int 0, .ref (h 32), .ref (h 33), .ref (h 34), .ref (h 35), .ref (h 36), .ref (h 37)])), ((h 0), .inl (cy 1, 1720, .inl (fun _ => 0))), ((h 2), .inl (cy 0, 2, .inl (fun _ => 0))), ((h 3), .inl (cy 0, 2, .inl (fun _ => 0))), ((h 4), .inl (cy 0, 2, .inl (fun _ => 0))), ((h 5), .inl (cy 0, 2, .inl (f 0))), ((h 12), .inl (cy 2, 2, .inl (f 1))), ((h 7), .inl (cy 0, 1200, .inl (fun _ => 0))), ((h 8), .inl (cy 0, 1200, .inl (fun _ => 0))), ((h 20), .inl (cy 2, 8, .inl (fun _ => 0))), ((h 21), .inl (cy 0, 8, .inl (fun _ => 0))), ((h 32), .inl (cy 0, 3, .inl f_4)), ((h 33), .inl (cy 0, 120, .inl (fun _ => 0))), ((h 34), .inl (cy 0, 120, .inl (fun _ => 0))), ((h 35), .inl (cy 0, 24, .inl (fun _ => 0))), ((h 36), .inl (cy 2, 24, .inl (fun _ => 0))), ((h 37), .inl (cy 2, 3, .inl f_5))] := hD
  refine lv_aload_n hx hb dX12_image_60 rfl (lv_at hl 1 rfl) ?_
  refine va_get (ci := 12) (v := .ref (h 34)) (C := RX12) (T := TX12) (N := 58) hx hb ht iX12 hown hK hP 0 rfl rfl 54 (by decide) (ht _ k_306) (fun _ h9 => h9) rfl dX12_image_61 ?_
  refine lv_bipush (v := 40) hx hb dX12_image_64 (by decide) ?_
  refine lv_iload_n hx hb dX12_image_66 rfl (lv_at hl 2 rfl) ?_
  refine lv_imul hx hb dX12_image_67 ?_
  refine ow_top 0 (by decide +kernel) ?_
  refine lv_iload_n hx hb dX12_image_68 rfl (lv_at hl 0 rfl) ?_
  refine lv_iadd hx hb dX12_image_69 ?_
  refine ow_top 15 (by decide +kernel) ?_
  refine lv_aload_n hx hb dX12_image_70 rfl (lv_at hl 1 rfl) ?_
  refine va_get (ci := 12) (v := .ref (h 8)) (C := RX12) (T := TX12) (N := 58) hx hb ht iX12 hown hK hP 0 rfl rfl 17 (by decide) (ht _ k_281) (fun _ h9 => h9) rfl dX12_image_71 ?_
  refine lv_sipush (v := 1120) hx hb dX12_image_74 (by decide) ?_
  refine lv_iload_n hx hb dX12_image_77 rfl (lv_at hl 0 rfl) ?_
  refine lv_iadd hx hb dX12_image_78 ?_
  refine ow_top 1135 (by decide +kernel) ?_
  refine va_iald hx hb hK hP 8 0 rfl rfl (in_lit (by decide +kernel)) dX12_image_79 ?_
  refine ow_top 0 rfl ?_
  refine ow_iastS hx hb hK hP hD hS 13 rfl (in_lit (by decide +kernel)) dX12_image_80 ?_
  clear hP hD hS
  try clear H locs
  intro H locs hP hD hS
  replace hP : va_P G vwCl [(mo, .inr (12, [.ref (h 0), .ref (h 1), .int 0, .int 0, .int 0, .int (-1), .int 0, .int 0, .int 0, .int 0, .long 0, .ref (h 2), .ref (h 3), .ref (h 4), .ref (h 5), .ref (h 6), .ref (h 7), .ref (h 8), .ref (h 9), .ref (h 10), .ref (h 11), .ref (h 12), .ref (h 13), .ref (h 14), .ref (h 15), .ref (h 16), .ref (h 17), .ref (h 18), .ref (h 19), .int 0, .int 0, .int 0, .int 0, .int 0, .int 0, .ref (h 20), .ref (h 21), .int 0, .ref (h 22), .ref (h 23), .ref (h 24), .ref (h 25), .ref (h 26), .int 0, .int 0, .ref (h 27), .ref (h 28), .ref (h 29), .ref (h 30), .ref (h 31), .int 0, .int 0, .ref (h 32), .ref (h 33), .ref (h 34), .ref (h 35), .ref (h 36), .ref (h 37)])), ((h 0), .inl (cy 1, 1720, .inl (fun _ => 0))), ((h 2), .inl (cy 0, 2, .inl (fun _ => 0))), ((h 3), .inl (cy 0, 2, .inl (fun _ => 0))), ((h 4), .inl (cy 0, 2, .inl (fun _ => 0))), ((h 5), .inl (cy 0, 2, .inl (f 0))), ((h 12), .inl (cy 2, 2, .inl (f 1))), ((h 7), .inl (cy 0, 1200, .inl (fun _ => 0))), ((h 8), .inl (cy 0, 1200, .inl (fun _ => 0))), ((h 20), .inl (cy 2, 8, .inl (fun _ => 0))), ((h 21), .inl (cy 0, 8, .inl (fun _ => 0))), ((h 32), .inl (cy 0, 3, .inl f_4)), ((h 33), .inl (cy 0, 120, .inl (fun _ => 0))), ((h 34), .inl (cy 0, 120, .inl (fun _ => 0))), ((h 35), .inl (cy 0, 24, .inl (fun _ => 0))), ((h 36), .inl (cy 2, 24, .inl (fun _ => 0))), ((h 37), .inl (cy 2, 3, .inl f_5))] H := hP
  replace hD : va_D A [(mo, .inr (12, [.ref (h 0), .ref (h 1), .int 0, .int 0, .int 0, .int (-1), .int 0, .int 0, .int 0, .int 0, .long 0, .ref (h 2), .ref (h 3), .ref (h 4), .ref (h 5), .ref (h 6), .ref (h 7), .ref (h 8), .ref (h 9), .ref (h 10), .ref (h 11), .ref (h 12), .ref (h 13), .ref (h 14), .ref (h 15), .ref (h 16), .ref (h 17), .ref (h 18), .ref (h 19), .int 0, .int 0, .int 0, .int 0, .int 0, .int 0, .ref (h 20), .ref (h 21), .int 0, .ref (h 22), .ref (h 23), .ref (h 24), .ref (h 25), .ref (h 26), .int 0, .int 0, .ref (h 27), .ref (h 28), .ref (h 29), .ref (h 30), .ref (h 31), .int 0, .int 0, .ref (h 32), .ref (h 33), .ref (h 34), .ref (h 35), .ref (h 36), .ref (h 37)])), ((h 0), .inl (cy 1, 1720, .inl (fun _ => 0))), ((h 2), .inl (cy 0, 2, .inl (fun _ => 0))), ((h 3), .inl (cy 0, 2, .inl (fun _ => 0))), ((h 4), .inl (cy 0, 2, .inl (fun _ => 0))), ((h 5), .inl (cy 0, 2, .inl (f 0))), ((h 12), .inl (cy 2, 2, .inl (f 1))), ((h 7), .inl (cy 0, 1200, .inl (fun _ => 0))), ((h 8), .inl (cy 0, 1200, .inl (fun _ => 0))), ((h 20), .inl (cy 2, 8, .inl (fun _ => 0))), ((h 21), .inl (cy 0, 8, .inl (fun _ => 0))), ((h 32), .inl (cy 0, 3, .inl f_4)), ((h 33), .inl (cy 0, 120, .inl (fun _ => 0))), ((h 34), .inl (cy 0, 120, .inl (fun _ => 0))), ((h 35), .inl (cy 0, 24, .inl (fun _ => 0))), ((h 36), .inl (cy 2, 24, .inl (fun _ => 0))), ((h 37), .inl (cy 2, 3, .inl f_5))] := hD
  refine lv_iinc (v := 16) (lv' := [(2, .int 16), (0, .ref mo), (1, .int 0)]) hx hb dX12_image_81 hl (k := 0) rfl (by decide) (by decide) rfl ?_
  clear hl
  try clear ls
  intro ls hl
  refine lv_goto (tgt := 33) hx hb dX12_image_84 (by decide) ?_
  refine lv_iload_n hx hb dX12_image_33 rfl (lv_at hl 0 rfl) ?_
  refine lv_bipush (v := 40) hx hb dX12_image_34 (by decide) ?_
  refine lv_icmp_ge (tgt := 87) hx hb dX12_image_36 (by decide) (fun c9 => absurd c9 (by decide)) (fun _ => ?_)
  refine lv_aload_n hx hb dX12_image_39 rfl (lv_at hl 1 rfl) ?_
  refine va_get (ci := 12) (v := .ref (h 33)) (C := RX12) (T := TX12) (N := 58) hx hb ht iX12 hown hK hP 0 rfl rfl 53 (by decide) (ht _ k_305) (fun _ h9 => h9) rfl dX12_image_40 ?_
  refine lv_bipush (v := 40) hx hb dX12_image_43 (by decide) ?_
  refine lv_iload_n hx hb dX12_image_45 rfl (lv_at hl 2 rfl) ?_
  refine lv_imul hx hb dX12_image_46 ?_
  refine ow_top 0 (by decide +kernel) ?_
  refine lv_iload_n hx hb dX12_image_47 rfl (lv_at hl 0 rfl) ?_
  refine lv_iadd hx hb dX12_image_48 ?_
  refine ow_top 16 (by decide +kernel) ?_
  refine lv_aload_n hx hb dX12_image_49 rfl (lv_at hl 1 rfl) ?_
  refine va_get (ci := 12) (v := .ref (h 7)) (C := RX12) (T := TX12) (N := 58) hx hb ht iX12 hown hK hP 0 rfl rfl 16 (by decide) (ht _ k_280) (fun _ h9 => h9) rfl dX12_image_50 ?_
  refine lv_sipush (v := 1120) hx hb dX12_image_53 (by decide) ?_
  refine lv_iload_n hx hb dX12_image_56 rfl (lv_at hl 0 rfl) ?_
  refine lv_iadd hx hb dX12_image_57 ?_
  refine ow_top 1136 (by decide +kernel) ?_
  refine va_iald hx hb hK hP 7 0 rfl rfl (in_lit (by decide +kernel)) dX12_image_58 ?_
  refine ow_top 0 rfl ?_
  refine ow_iastS hx hb hK hP hD hS 12 rfl (in_lit (by decide +kernel)) dX12_image_59 ?_
  clear hP hD hS
  try clear H locs
  intro H locs hP hD hS
  replace hP : va_P G vwCl [(mo, .inr (12, [.ref (h 0), .ref (h 1), .int 0, .int 0, .int 0, .int (-1), .int 0, .int 0, .int 0, .int 0, .long 0, .ref (h 2), .ref (h 3), .ref (h 4), .ref (h 5), .ref (h 6), .ref (h 7), .ref (h 8), .ref (h 9), .ref (h 10), .ref (h 11), .ref (h 12), .ref (h 13), .ref (h 14), .ref (h 15), .ref (h 16), .ref (h 17), .ref (h 18), .ref (h 19), .int 0, .int 0, .int 0, .int 0, .int 0, .int 0, .ref (h 20), .ref (h 21), .int 0, .ref (h 22), .ref (h 23), .ref (h 24), .ref (h 25), .ref (h 26), .int 0, .int 0, .ref (h 27), .ref (h 28), .ref (h 29), .ref (h 30), .ref (h 31), .int 0, .int 0, .ref (h 32), .ref (h 33), .ref (h 34), .ref (h 35), .ref (h 36), .ref (h 37)])), ((h 0), .inl (cy 1, 1720, .inl (fun _ => 0))), ((h 2), .inl (cy 0, 2, .inl (fun _ => 0))), ((h 3), .inl (cy 0, 2, .inl (fun _ => 0))), ((h 4), .inl (cy 0, 2, .inl (fun _ => 0))), ((h 5), .inl (cy 0, 2, .inl (f 0))), ((h 12), .inl (cy 2, 2, .inl (f 1))), ((h 7), .inl (cy 0, 1200, .inl (fun _ => 0))), ((h 8), .inl (cy 0, 1200, .inl (fun _ => 0))), ((h 20), .inl (cy 2, 8, .inl (fun _ => 0))), ((h 21), .inl (cy 0, 8, .inl (fun _ => 0))), ((h 32), .inl (cy 0, 3, .inl f_4)), ((h 33), .inl (cy 0, 120, .inl (fun _ => 0))), ((h 34), .inl (cy 0, 120, .inl (fun _ => 0))), ((h 35), .inl (cy 0, 24, .inl (fun _ => 0))), ((h 36), .inl (cy 2, 24, .inl (fun _ => 0))), ((h 37), .inl (cy 2, 3, .inl f_5))] H := hP
  replace hD : va_D A [(mo, .inr (12, [.ref (h 0), .ref (h 1), .int 0, .int 0, .int 0, .int (-1), .int 0, .int 0, .int 0, .int 0, .long 0, .ref (h 2), .ref (h 3), .ref (h 4), .ref (h 5), .ref (h 6), .ref (h 7), .ref (h 8), .ref (h 9), .ref (h 10), .ref (h 11), .ref (h 12), .ref (h 13), .ref (h 14), .ref (h 15), .ref (h 16), .ref (h 17), .ref (h 18), .ref (h 19), .int 0, .int 0, .int 0, .int 0, .int 0, .int 0, .ref (h 20), .ref (h 21), .int 0, .ref (h 22), .ref (h 23), .ref (h 24), .ref (h 25), .ref (h 26), .int 0, .int 0, .ref (h 27), .ref (h 28), .ref (h 29), .ref (h 30), .ref (h 31), .int 0, .int 0, .ref (h 32), .ref (h 33), .ref (h 34), .ref (h 35), .ref (h 36), .ref (h 37)])), ((h 0), .inl (cy 1, 1720, .inl (fun _ => 0))), ((h 2), .inl (cy 0, 2, .inl (fun _ => 0))), ((h 3), .inl (cy 0, 2, .inl (fun _ => 0))), ((h 4), .inl (cy 0, 2, .inl (fun _ => 0))), ((h 5), .inl (cy 0, 2, .inl (f 0))), ((h 12), .inl (cy 2, 2, .inl (f 1))), ((h 7), .inl (cy 0, 1200, .inl (fun _ => 0))), ((h 8), .inl (cy 0, 1200, .inl (fun _ => 0))), ((h 20), .inl (cy 2, 8, .inl (fun _ => 0))), ((h 21), .inl (cy 0, 8, .inl (fun _ => 0))), ((h 32), .inl (cy 0, 3, .inl f_4)), ((h 33), .inl (cy 0, 120, .inl (fun _ => 0))), ((h 34), .inl (cy 0, 120, .inl (fun _ => 0))), ((h 35), .inl (cy 0, 24, .inl (fun _ => 0))), ((h 36), .inl (cy 2, 24, .inl (fun _ => 0))), ((h 37), .inl (cy 2, 3, .inl f_5))] := hD
  refine lv_aload_n hx hb dX12_image_60 rfl (lv_at hl 1 rfl) ?_
  refine va_get (ci := 12) (v := .ref (h 34)) (C := RX12) (T := TX12) (N := 58) hx hb ht iX12 hown hK hP 0 rfl rfl 54 (by decide) (ht _ k_306) (fun _ h9 => h9) rfl dX12_image_61 ?_
  refine lv_bipush (v := 40) hx hb dX12_image_64 (by decide) ?_
  refine lv_iload_n hx hb dX12_image_66 rfl (lv_at hl 2 rfl) ?_
  refine lv_imul hx hb dX12_image_67 ?_
  refine ow_top 0 (by decide +kernel) ?_
  refine lv_iload_n hx hb dX12_image_68 rfl (lv_at hl 0 rfl) ?_
  refine lv_iadd hx hb dX12_image_69 ?_
  refine ow_top 16 (by decide +kernel) ?_
  refine lv_aload_n hx hb dX12_image_70 rfl (lv_at hl 1 rfl) ?_
  refine va_get (ci := 12) (v := .ref (h 8)) (C := RX12) (T := TX12) (N := 58) hx hb ht iX12 hown hK hP 0 rfl rfl 17 (by decide) (ht _ k_281) (fun _ h9 => h9) rfl dX12_image_71 ?_
  refine lv_sipush (v := 1120) hx hb dX12_image_74 (by decide) ?_
  refine lv_iload_n hx hb dX12_image_77 rfl (lv_at hl 0 rfl) ?_
  refine lv_iadd hx hb dX12_image_78 ?_
  refine ow_top 1136 (by decide +kernel) ?_
  refine va_iald hx hb hK hP 8 0 rfl rfl (in_lit (by decide +kernel)) dX12_image_79 ?_
  refine ow_top 0 rfl ?_
  refine ow_iastS hx hb hK hP hD hS 13 rfl (in_lit (by decide +kernel)) dX12_image_80 ?_
  clear hP hD hS
  try clear H locs
  intro H locs hP hD hS
  replace hP : va_P G vwCl [(mo, .inr (12, [.ref (h 0), .ref (h 1), .int 0, .int 0, .int 0, .int (-1), .int 0, .int 0, .int 0, .int 0, .long 0, .ref (h 2), .ref (h 3), .ref (h 4), .ref (h 5), .ref (h 6), .ref (h 7), .ref (h 8), .ref (h 9), .ref (h 10), .ref (h 11), .ref (h 12), .ref (h 13), .ref (h 14), .ref (h 15), .ref (h 16), .ref (h 17), .ref (h 18), .ref (h 19), .int 0, .int 0, .int 0, .int 0, .int 0, .int 0, .ref (h 20), .ref (h 21), .int 0, .ref (h 22), .ref (h 23), .ref (h 24), .ref (h 25), .ref (h 26), .int 0, .int 0, .ref (h 27), .ref (h 28), .ref (h 29), .ref (h 30), .ref (h 31), .int 0, .int 0, .ref (h 32), .ref (h 33), .ref (h 34), .ref (h 35), .ref (h 36), .ref (h 37)])), ((h 0), .inl (cy 1, 1720, .inl (fun _ => 0))), ((h 2), .inl (cy 0, 2, .inl (fun _ => 0))), ((h 3), .inl (cy 0, 2, .inl (fun _ => 0))), ((h 4), .inl (cy 0, 2, .inl (fun _ => 0))), ((h 5), .inl (cy 0, 2, .inl (f 0))), ((h 12), .inl (cy 2, 2, .inl (f 1))), ((h 7), .inl (cy 0, 1200, .inl (fun _ => 0))), ((h 8), .inl (cy 0, 1200, .inl (fun _ => 0))), ((h 20), .inl (cy 2, 8, .inl (fun _ => 0))), ((h 21), .inl (cy 0, 8, .inl (fun _ => 0))), ((h 32), .inl (cy 0, 3, .inl f_4)), ((h 33), .inl (cy 0, 120, .inl (fun _ => 0))), ((h 34), .inl (cy 0, 120, .inl (fun _ => 0))), ((h 35), .inl (cy 0, 24, .inl (fun _ => 0))), ((h 36), .inl (cy 2, 24, .inl (fun _ => 0))), ((h 37), .inl (cy 2, 3, .inl f_5))] H := hP
  replace hD : va_D A [(mo, .inr (12, [.ref (h 0), .ref (h 1), .int 0, .int 0, .int 0, .int (-1), .int 0, .int 0, .int 0, .int 0, .long 0, .ref (h 2), .ref (h 3), .ref (h 4), .ref (h 5), .ref (h 6), .ref (h 7), .ref (h 8), .ref (h 9), .ref (h 10), .ref (h 11), .ref (h 12), .ref (h 13), .ref (h 14), .ref (h 15), .ref (h 16), .ref (h 17), .ref (h 18), .ref (h 19), .int 0, .int 0, .int 0, .int 0, .int 0, .int 0, .ref (h 20), .ref (h 21), .int 0, .ref (h 22), .ref (h 23), .ref (h 24), .ref (h 25), .ref (h 26), .int 0, .int 0, .ref (h 27), .ref (h 28), .ref (h 29), .ref (h 30), .ref (h 31), .int 0, .int 0, .ref (h 32), .ref (h 33), .ref (h 34), .ref (h 35), .ref (h 36), .ref (h 37)])), ((h 0), .inl (cy 1, 1720, .inl (fun _ => 0))), ((h 2), .inl (cy 0, 2, .inl (fun _ => 0))), ((h 3), .inl (cy 0, 2, .inl (fun _ => 0))), ((h 4), .inl (cy 0, 2, .inl (fun _ => 0))), ((h 5), .inl (cy 0, 2, .inl (f 0))), ((h 12), .inl (cy 2, 2, .inl (f 1))), ((h 7), .inl (cy 0, 1200, .inl (fun _ => 0))), ((h 8), .inl (cy 0, 1200, .inl (fun _ => 0))), ((h 20), .inl (cy 2, 8, .inl (fun _ => 0))), ((h 21), .inl (cy 0, 8, .inl (fun _ => 0))), ((h 32), .inl (cy 0, 3, .inl f_4)), ((h 33), .inl (cy 0, 120, .inl (fun _ => 0))), ((h 34), .inl (cy 0, 120, .inl (fun _ => 0))), ((h 35), .inl (cy 0, 24, .inl (fun _ => 0))), ((h 36), .inl (cy 2, 24, .inl (fun _ => 0))), ((h 37), .inl (cy 2, 3, .inl f_5))] := hD
  refine lv_iinc (v := 17) (lv' := [(2, .int 17), (0, .ref mo), (1, .int 0)]) hx hb dX12_image_81 hl (k := 0) rfl (by decide) (by decide) rfl ?_
  clear hl
  try clear ls
  intro ls hl
  refine lv_goto (tgt := 33) hx hb dX12_image_84 (by decide) ?_
  refine lv_iload_n hx hb dX12_image_33 rfl (lv_at hl 0 rfl) ?_
  refine lv_bipush (v := 40) hx hb dX12_image_34 (by decide) ?_
  refine lv_icmp_ge (tgt := 87) hx hb dX12_image_36 (by decide) (fun c9 => absurd c9 (by decide)) (fun _ => ?_)
  refine lv_aload_n hx hb dX12_image_39 rfl (lv_at hl 1 rfl) ?_
  refine va_get (ci := 12) (v := .ref (h 33)) (C := RX12) (T := TX12) (N := 58) hx hb ht iX12 hown hK hP 0 rfl rfl 53 (by decide) (ht _ k_305) (fun _ h9 => h9) rfl dX12_image_40 ?_
  refine lv_bipush (v := 40) hx hb dX12_image_43 (by decide) ?_
  refine lv_iload_n hx hb dX12_image_45 rfl (lv_at hl 2 rfl) ?_
  refine lv_imul hx hb dX12_image_46 ?_
  refine ow_top 0 (by decide +kernel) ?_
  refine lv_iload_n hx hb dX12_image_47 rfl (lv_at hl 0 rfl) ?_
  refine lv_iadd hx hb dX12_image_48 ?_
  refine ow_top 17 (by decide +kernel) ?_
  refine lv_aload_n hx hb dX12_image_49 rfl (lv_at hl 1 rfl) ?_
  refine va_get (ci := 12) (v := .ref (h 7)) (C := RX12) (T := TX12) (N := 58) hx hb ht iX12 hown hK hP 0 rfl rfl 16 (by decide) (ht _ k_280) (fun _ h9 => h9) rfl dX12_image_50 ?_
  refine lv_sipush (v := 1120) hx hb dX12_image_53 (by decide) ?_
  refine lv_iload_n hx hb dX12_image_56 rfl (lv_at hl 0 rfl) ?_
  refine lv_iadd hx hb dX12_image_57 ?_
  refine ow_top 1137 (by decide +kernel) ?_
  refine va_iald hx hb hK hP 7 0 rfl rfl (in_lit (by decide +kernel)) dX12_image_58 ?_
  refine ow_top 0 rfl ?_
  refine ow_iastS hx hb hK hP hD hS 12 rfl (in_lit (by decide +kernel)) dX12_image_59 ?_
  clear hP hD hS
  try clear H locs
  intro H locs hP hD hS
  replace hP : va_P G vwCl [(mo, .inr (12, [.ref (h 0), .ref (h 1), .int 0, .int 0, .int 0, .int (-1), .int 0, .int 0, .int 0, .int 0, .long 0, .ref (h 2), .ref (h 3), .ref (h 4), .ref (h 5), .ref (h 6), .ref (h 7), .ref (h 8), .ref (h 9), .ref (h 10), .ref (h 11), .ref (h 12), .ref (h 13), .ref (h 14), .ref (h 15), .ref (h 16), .ref (h 17), .ref (h 18), .ref (h 19), .int 0, .int 0, .int 0, .int 0, .int 0, .int 0, .ref (h 20), .ref (h 21), .int 0, .ref (h 22), .ref (h 23), .ref (h 24), .ref (h 25), .ref (h 26), .int 0, .int 0, .ref (h 27), .ref (h 28), .ref (h 29), .ref (h 30), .ref (h 31), .int 0, .int 0, .ref (h 32), .ref (h 33), .ref (h 34), .ref (h 35), .ref (h 36), .ref (h 37)])), ((h 0), .inl (cy 1, 1720, .inl (fun _ => 0))), ((h 2), .inl (cy 0, 2, .inl (fun _ => 0))), ((h 3), .inl (cy 0, 2, .inl (fun _ => 0))), ((h 4), .inl (cy 0, 2, .inl (fun _ => 0))), ((h 5), .inl (cy 0, 2, .inl (f 0))), ((h 12), .inl (cy 2, 2, .inl (f 1))), ((h 7), .inl (cy 0, 1200, .inl (fun _ => 0))), ((h 8), .inl (cy 0, 1200, .inl (fun _ => 0))), ((h 20), .inl (cy 2, 8, .inl (fun _ => 0))), ((h 21), .inl (cy 0, 8, .inl (fun _ => 0))), ((h 32), .inl (cy 0, 3, .inl f_4)), ((h 33), .inl (cy 0, 120, .inl (fun _ => 0))), ((h 34), .inl (cy 0, 120, .inl (fun _ => 0))), ((h 35), .inl (cy 0, 24, .inl (fun _ => 0))), ((h 36), .inl (cy 2, 24, .inl (fun _ => 0))), ((h 37), .inl (cy 2, 3, .inl f_5))] H := hP
  replace hD : va_D A [(mo, .inr (12, [.ref (h 0), .ref (h 1), .int 0, .int 0, .int 0, .int (-1), .int 0, .int 0, .int 0, .int 0, .long 0, .ref (h 2), .ref (h 3), .ref (h 4), .ref (h 5), .ref (h 6), .ref (h 7), .ref (h 8), .ref (h 9), .ref (h 10), .ref (h 11), .ref (h 12), .ref (h 13), .ref (h 14), .ref (h 15), .ref (h 16), .ref (h 17), .ref (h 18), .ref (h 19), .int 0, .int 0, .int 0, .int 0, .int 0, .int 0, .ref (h 20), .ref (h 21), .int 0, .ref (h 22), .ref (h 23), .ref (h 24), .ref (h 25), .ref (h 26), .int 0, .int 0, .ref (h 27), .ref (h 28), .ref (h 29), .ref (h 30), .ref (h 31), .int 0, .int 0, .ref (h 32), .ref (h 33), .ref (h 34), .ref (h 35), .ref (h 36), .ref (h 37)])), ((h 0), .inl (cy 1, 1720, .inl (fun _ => 0))), ((h 2), .inl (cy 0, 2, .inl (fun _ => 0))), ((h 3), .inl (cy 0, 2, .inl (fun _ => 0))), ((h 4), .inl (cy 0, 2, .inl (fun _ => 0))), ((h 5), .inl (cy 0, 2, .inl (f 0))), ((h 12), .inl (cy 2, 2, .inl (f 1))), ((h 7), .inl (cy 0, 1200, .inl (fun _ => 0))), ((h 8), .inl (cy 0, 1200, .inl (fun _ => 0))), ((h 20), .inl (cy 2, 8, .inl (fun _ => 0))), ((h 21), .inl (cy 0, 8, .inl (fun _ => 0))), ((h 32), .inl (cy 0, 3, .inl f_4)), ((h 33), .inl (cy 0, 120, .inl (fun _ => 0))), ((h 34), .inl (cy 0, 120, .inl (fun _ => 0))), ((h 35), .inl (cy 0, 24, .inl (fun _ => 0))), ((h 36), .inl (cy 2, 24, .inl (fun _ => 0))), ((h 37), .inl (cy 2, 3, .inl f_5))] := hD
  refine lv_aload_n hx hb dX12_image_60 rfl (lv_at hl 1 rfl) ?_
  refine va_get (ci := 12) (v := .ref (h 34)) (C := RX12) (T := TX12) (N := 58) hx hb ht iX12 hown hK hP 0 rfl rfl 54 (by decide) (ht _ k_306) (fun _ h9 => h9) rfl dX12_image_61 ?_
  refine lv_bipush (v := 40) hx hb dX12_image_64 (by decide) ?_
  refine lv_iload_n hx hb dX12_image_66 rfl (lv_at hl 2 rfl) ?_
  refine lv_imul hx hb dX12_image_67 ?_
  refine ow_top 0 (by decide +kernel) ?_
  refine lv_iload_n hx hb dX12_image_68 rfl (lv_at hl 0 rfl) ?_
  refine lv_iadd hx hb dX12_image_69 ?_
  refine ow_top 17 (by decide +kernel) ?_
  refine lv_aload_n hx hb dX12_image_70 rfl (lv_at hl 1 rfl) ?_
  refine va_get (ci := 12) (v := .ref (h 8)) (C := RX12) (T := TX12) (N := 58) hx hb ht iX12 hown hK hP 0 rfl rfl 17 (by decide) (ht _ k_281) (fun _ h9 => h9) rfl dX12_image_71 ?_
  refine lv_sipush (v := 1120) hx hb dX12_image_74 (by decide) ?_
  refine lv_iload_n hx hb dX12_image_77 rfl (lv_at hl 0 rfl) ?_
  refine lv_iadd hx hb dX12_image_78 ?_
  refine ow_top 1137 (by decide +kernel) ?_
  refine va_iald hx hb hK hP 8 0 rfl rfl (in_lit (by decide +kernel)) dX12_image_79 ?_
  refine ow_top 0 rfl ?_
  refine ow_iastS hx hb hK hP hD hS 13 rfl (in_lit (by decide +kernel)) dX12_image_80 ?_
  clear hP hD hS
  try clear H locs
  intro H locs hP hD hS
  replace hP : va_P G vwCl [(mo, .inr (12, [.ref (h 0), .ref (h 1), .int 0, .int 0, .int 0, .int (-1), .int 0, .int 0, .int 0, .int 0, .long 0, .ref (h 2), .ref (h 3), .ref (h 4), .ref (h 5), .ref (h 6), .ref (h 7), .ref (h 8), .ref (h 9), .ref (h 10), .ref (h 11), .ref (h 12), .ref (h 13), .ref (h 14), .ref (h 15), .ref (h 16), .ref (h 17), .ref (h 18), .ref (h 19), .int 0, .int 0, .int 0, .int 0, .int 0, .int 0, .ref (h 20), .ref (h 21), .int 0, .ref (h 22), .ref (h 23), .ref (h 24), .ref (h 25), .ref (h 26), .int 0, .int 0, .ref (h 27), .ref (h 28), .ref (h 29), .ref (h 30), .ref (h 31), .int 0, .int 0, .ref (h 32), .ref (h 33), .ref (h 34), .ref (h 35), .ref (h 36), .ref (h 37)])), ((h 0), .inl (cy 1, 1720, .inl (fun _ => 0))), ((h 2), .inl (cy 0, 2, .inl (fun _ => 0))), ((h 3), .inl (cy 0, 2, .inl (fun _ => 0))), ((h 4), .inl (cy 0, 2, .inl (fun _ => 0))), ((h 5), .inl (cy 0, 2, .inl (f 0))), ((h 12), .inl (cy 2, 2, .inl (f 1))), ((h 7), .inl (cy 0, 1200, .inl (fun _ => 0))), ((h 8), .inl (cy 0, 1200, .inl (fun _ => 0))), ((h 20), .inl (cy 2, 8, .inl (fun _ => 0))), ((h 21), .inl (cy 0, 8, .inl (fun _ => 0))), ((h 32), .inl (cy 0, 3, .inl f_4)), ((h 33), .inl (cy 0, 120, .inl (fun _ => 0))), ((h 34), .inl (cy 0, 120, .inl (fun _ => 0))), ((h 35), .inl (cy 0, 24, .inl (fun _ => 0))), ((h 36), .inl (cy 2, 24, .inl (fun _ => 0))), ((h 37), .inl (cy 2, 3, .inl f_5))] H := hP
  replace hD : va_D A [(mo, .inr (12, [.ref (h 0), .ref (h 1), .int 0, .int 0, .int 0, .int (-1), .int 0, .int 0, .int 0, .int 0, .long 0, .ref (h 2), .ref (h 3), .ref (h 4), .ref (h 5), .ref (h 6), .ref (h 7), .ref (h 8), .ref (h 9), .ref (h 10), .ref (h 11), .ref (h 12), .ref (h 13), .ref (h 14), .ref (h 15), .ref (h 16), .ref (h 17), .ref (h 18), .ref (h 19), .int 0, .int 0, .int 0, .int 0, .int 0, .int 0, .ref (h 20), .ref (h 21), .int 0, .ref (h 22), .ref (h 23), .ref (h 24), .ref (h 25), .ref (h 26), .int 0, .int 0, .ref (h 27), .ref (h 28), .ref (h 29), .ref (h 30), .ref (h 31), .int 0, .int 0, .ref (h 32), .ref (h 33), .ref (h 34), .ref (h 35), .ref (h 36), .ref (h 37)])), ((h 0), .inl (cy 1, 1720, .inl (fun _ => 0))), ((h 2), .inl (cy 0, 2, .inl (fun _ => 0))), ((h 3), .inl (cy 0, 2, .inl (fun _ => 0))), ((h 4), .inl (cy 0, 2, .inl (fun _ => 0))), ((h 5), .inl (cy 0, 2, .inl (f 0))), ((h 12), .inl (cy 2, 2, .inl (f 1))), ((h 7), .inl (cy 0, 1200, .inl (fun _ => 0))), ((h 8), .inl (cy 0, 1200, .inl (fun _ => 0))), ((h 20), .inl (cy 2, 8, .inl (fun _ => 0))), ((h 21), .inl (cy 0, 8, .inl (fun _ => 0))), ((h 32), .inl (cy 0, 3, .inl f_4)), ((h 33), .inl (cy 0, 120, .inl (fun _ => 0))), ((h 34), .inl (cy 0, 120, .inl (fun _ => 0))), ((h 35), .inl (cy 0, 24, .inl (fun _ => 0))), ((h 36), .inl (cy 2, 24, .inl (fun _ => 0))), ((h 37), .inl (cy 2, 3, .inl f_5))] := hD
  refine lv_iinc (v := 18) (lv' := [(2, .int 18), (0, .ref mo), (1, .int 0)]) hx hb dX12_image_81 hl (k := 0) rfl (by decide) (by decide) rfl ?_
  clear hl
  try clear ls
  intro ls hl
  refine lv_goto (tgt := 33) hx hb dX12_image_84 (by decide) ?_
  refine lv_iload_n hx hb dX12_image_33 rfl (lv_at hl 0 rfl) ?_
  refine lv_bipush (v := 40) hx hb dX12_image_34 (by decide) ?_
  refine lv_icmp_ge (tgt := 87) hx hb dX12_image_36 (by decide) (fun c9 => absurd c9 (by decide)) (fun _ => ?_)
  refine lv_aload_n hx hb dX12_image_39 rfl (lv_at hl 1 rfl) ?_
  refine va_get (ci := 12) (v := .ref (h 33)) (C := RX12) (T := TX12) (N := 58) hx hb ht iX12 hown hK hP 0 rfl rfl 53 (by decide) (ht _ k_305) (fun _ h9 => h9) rfl dX12_image_40 ?_
  refine lv_bipush (v := 40) hx hb dX12_image_43 (by decide) ?_
  refine lv_iload_n hx hb dX12_image_45 rfl (lv_at hl 2 rfl) ?_
  refine lv_imul hx hb dX12_image_46 ?_
  refine ow_top 0 (by decide +kernel) ?_
  refine lv_iload_n hx hb dX12_image_47 rfl (lv_at hl 0 rfl) ?_
  refine lv_iadd hx hb dX12_image_48 ?_
  refine ow_top 18 (by decide +kernel) ?_
  refine lv_aload_n hx hb dX12_image_49 rfl (lv_at hl 1 rfl) ?_
  refine va_get (ci := 12) (v := .ref (h 7)) (C := RX12) (T := TX12) (N := 58) hx hb ht iX12 hown hK hP 0 rfl rfl 16 (by decide) (ht _ k_280) (fun _ h9 => h9) rfl dX12_image_50 ?_
  refine lv_sipush (v := 1120) hx hb dX12_image_53 (by decide) ?_
  refine lv_iload_n hx hb dX12_image_56 rfl (lv_at hl 0 rfl) ?_
  refine lv_iadd hx hb dX12_image_57 ?_
  refine ow_top 1138 (by decide +kernel) ?_
  refine va_iald hx hb hK hP 7 0 rfl rfl (in_lit (by decide +kernel)) dX12_image_58 ?_
  refine ow_top 0 rfl ?_
  refine ow_iastS hx hb hK hP hD hS 12 rfl (in_lit (by decide +kernel)) dX12_image_59 ?_
  clear hP hD hS
  try clear H locs
  intro H locs hP hD hS
  replace hP : va_P G vwCl [(mo, .inr (12, [.ref (h 0), .ref (h 1), .int 0, .int 0, .int 0, .int (-1), .int 0, .int 0, .int 0, .int 0, .long 0, .ref (h 2), .ref (h 3), .ref (h 4), .ref (h 5), .ref (h 6), .ref (h 7), .ref (h 8), .ref (h 9), .ref (h 10), .ref (h 11), .ref (h 12), .ref (h 13), .ref (h 14), .ref (h 15), .ref (h 16), .ref (h 17), .ref (h 18), .ref (h 19), .int 0, .int 0, .int 0, .int 0, .int 0, .int 0, .ref (h 20), .ref (h 21), .int 0, .ref (h 22), .ref (h 23), .ref (h 24), .ref (h 25), .ref (h 26), .int 0, .int 0, .ref (h 27), .ref (h 28), .ref (h 29), .ref (h 30), .ref (h 31), .int 0, .int 0, .ref (h 32), .ref (h 33), .ref (h 34), .ref (h 35), .ref (h 36), .ref (h 37)])), ((h 0), .inl (cy 1, 1720, .inl (fun _ => 0))), ((h 2), .inl (cy 0, 2, .inl (fun _ => 0))), ((h 3), .inl (cy 0, 2, .inl (fun _ => 0))), ((h 4), .inl (cy 0, 2, .inl (fun _ => 0))), ((h 5), .inl (cy 0, 2, .inl (f 0))), ((h 12), .inl (cy 2, 2, .inl (f 1))), ((h 7), .inl (cy 0, 1200, .inl (fun _ => 0))), ((h 8), .inl (cy 0, 1200, .inl (fun _ => 0))), ((h 20), .inl (cy 2, 8, .inl (fun _ => 0))), ((h 21), .inl (cy 0, 8, .inl (fun _ => 0))), ((h 32), .inl (cy 0, 3, .inl f_4)), ((h 33), .inl (cy 0, 120, .inl (fun _ => 0))), ((h 34), .inl (cy 0, 120, .inl (fun _ => 0))), ((h 35), .inl (cy 0, 24, .inl (fun _ => 0))), ((h 36), .inl (cy 2, 24, .inl (fun _ => 0))), ((h 37), .inl (cy 2, 3, .inl f_5))] H := hP
  replace hD : va_D A [(mo, .inr (12, [.ref (h 0), .ref (h 1), .int 0, .int 0, .int 0, .int (-1), .int 0, .int 0, .int 0, .int 0, .long 0, .ref (h 2), .ref (h 3), .ref (h 4), .ref (h 5), .ref (h 6), .ref (h 7), .ref (h 8), .ref (h 9), .ref (h 10), .ref (h 11), .ref (h 12), .ref (h 13), .ref (h 14), .ref (h 15), .ref (h 16), .ref (h 17), .ref (h 18), .ref (h 19), .int 0, .int 0, .int 0, .int 0, .int 0, .int 0, .ref (h 20), .ref (h 21), .int 0, .ref (h 22), .ref (h 23), .ref (h 24), .ref (h 25), .ref (h 26), .int 0, .int 0, .ref (h 27), .ref (h 28), .ref (h 29), .ref (h 30), .ref (h 31), .int 0, .int 0, .ref (h 32), .ref (h 33), .ref (h 34), .ref (h 35), .ref (h 36), .ref (h 37)])), ((h 0), .inl (cy 1, 1720, .inl (fun _ => 0))), ((h 2), .inl (cy 0, 2, .inl (fun _ => 0))), ((h 3), .inl (cy 0, 2, .inl (fun _ => 0))), ((h 4), .inl (cy 0, 2, .inl (fun _ => 0))), ((h 5), .inl (cy 0, 2, .inl (f 0))), ((h 12), .inl (cy 2, 2, .inl (f 1))), ((h 7), .inl (cy 0, 1200, .inl (fun _ => 0))), ((h 8), .inl (cy 0, 1200, .inl (fun _ => 0))), ((h 20), .inl (cy 2, 8, .inl (fun _ => 0))), ((h 21), .inl (cy 0, 8, .inl (fun _ => 0))), ((h 32), .inl (cy 0, 3, .inl f_4)), ((h 33), .inl (cy 0, 120, .inl (fun _ => 0))), ((h 34), .inl (cy 0, 120, .inl (fun _ => 0))), ((h 35), .inl (cy 0, 24, .inl (fun _ => 0))), ((h 36), .inl (cy 2, 24, .inl (fun _ => 0))), ((h 37), .inl (cy 2, 3, .inl f_5))] := hD
  refine lv_aload_n hx hb dX12_image_60 rfl (lv_at hl 1 rfl) ?_
  refine va_get (ci := 12) (v := .ref (h 34)) (C := RX12) (T := TX12) (N := 58) hx hb ht iX12 hown hK hP 0 rfl rfl 54 (by decide) (ht _ k_306) (fun _ h9 => h9) rfl dX12_image_61 ?_
  refine lv_bipush (v := 40) hx hb dX12_image_64 (by decide) ?_
  refine lv_iload_n hx hb dX12_image_66 rfl (lv_at hl 2 rfl) ?_
  refine lv_imul hx hb dX12_image_67 ?_
  refine ow_top 0 (by decide +kernel) ?_
  refine lv_iload_n hx hb dX12_image_68 rfl (lv_at hl 0 rfl) ?_
  refine lv_iadd hx hb dX12_image_69 ?_
  refine ow_top 18 (by decide +kernel) ?_
  refine lv_aload_n hx hb dX12_image_70 rfl (lv_at hl 1 rfl) ?_
  refine va_get (ci := 12) (v := .ref (h 8)) (C := RX12) (T := TX12) (N := 58) hx hb ht iX12 hown hK hP 0 rfl rfl 17 (by decide) (ht _ k_281) (fun _ h9 => h9) rfl dX12_image_71 ?_
  refine lv_sipush (v := 1120) hx hb dX12_image_74 (by decide) ?_
  refine lv_iload_n hx hb dX12_image_77 rfl (lv_at hl 0 rfl) ?_
  refine lv_iadd hx hb dX12_image_78 ?_
  refine ow_top 1138 (by decide +kernel) ?_
  refine va_iald hx hb hK hP 8 0 rfl rfl (in_lit (by decide +kernel)) dX12_image_79 ?_
  refine ow_top 0 rfl ?_
  refine ow_iastS hx hb hK hP hD hS 13 rfl (in_lit (by decide +kernel)) dX12_image_80 ?_
  clear hP hD hS
  try clear H locs
  intro H locs hP hD hS
  replace hP : va_P G vwCl [(mo, .inr (12, [.ref (h 0), .ref (h 1), .int 0, .int 0, .int 0, .int (-1), .int 0, .int 0, .int 0, .int 0, .long 0, .ref (h 2), .ref (h 3), .ref (h 4), .ref (h 5), .ref (h 6), .ref (h 7), .ref (h 8), .ref (h 9), .ref (h 10), .ref (h 11), .ref (h 12), .ref (h 13), .ref (h 14), .ref (h 15), .ref (h 16), .ref (h 17), .ref (h 18), .ref (h 19), .int 0, .int 0, .int 0, .int 0, .int 0, .int 0, .ref (h 20), .ref (h 21), .int 0, .ref (h 22), .ref (h 23), .ref (h 24), .ref (h 25), .ref (h 26), .int 0, .int 0, .ref (h 27), .ref (h 28), .ref (h 29), .ref (h 30), .ref (h 31), .int 0, .int 0, .ref (h 32), .ref (h 33), .ref (h 34), .ref (h 35), .ref (h 36), .ref (h 37)])), ((h 0), .inl (cy 1, 1720, .inl (fun _ => 0))), ((h 2), .inl (cy 0, 2, .inl (fun _ => 0))), ((h 3), .inl (cy 0, 2, .inl (fun _ => 0))), ((h 4), .inl (cy 0, 2, .inl (fun _ => 0))), ((h 5), .inl (cy 0, 2, .inl (f 0))), ((h 12), .inl (cy 2, 2, .inl (f 1))), ((h 7), .inl (cy 0, 1200, .inl (fun _ => 0))), ((h 8), .inl (cy 0, 1200, .inl (fun _ => 0))), ((h 20), .inl (cy 2, 8, .inl (fun _ => 0))), ((h 21), .inl (cy 0, 8, .inl (fun _ => 0))), ((h 32), .inl (cy 0, 3, .inl f_4)), ((h 33), .inl (cy 0, 120, .inl (fun _ => 0))), ((h 34), .inl (cy 0, 120, .inl (fun _ => 0))), ((h 35), .inl (cy 0, 24, .inl (fun _ => 0))), ((h 36), .inl (cy 2, 24, .inl (fun _ => 0))), ((h 37), .inl (cy 2, 3, .inl f_5))] H := hP
  replace hD : va_D A [(mo, .inr (12, [.ref (h 0), .ref (h 1), .int 0, .int 0, .int 0, .int (-1), .int 0, .int 0, .int 0, .int 0, .long 0, .ref (h 2), .ref (h 3), .ref (h 4), .ref (h 5), .ref (h 6), .ref (h 7), .ref (h 8), .ref (h 9), .ref (h 10), .ref (h 11), .ref (h 12), .ref (h 13), .ref (h 14), .ref (h 15), .ref (h 16), .ref (h 17), .ref (h 18), .ref (h 19), .int 0, .int 0, .int 0, .int 0, .int 0, .int 0, .ref (h 20), .ref (h 21), .int 0, .ref (h 22), .ref (h 23), .ref (h 24), .ref (h 25), .ref (h 26), .int 0, .int 0, .ref (h 27), .ref (h 28), .ref (h 29), .ref (h 30), .ref (h 31), .int 0, .int 0, .ref (h 32), .ref (h 33), .ref (h 34), .ref (h 35), .ref (h 36), .ref (h 37)])), ((h 0), .inl (cy 1, 1720, .inl (fun _ => 0))), ((h 2), .inl (cy 0, 2, .inl (fun _ => 0))), ((h 3), .inl (cy 0, 2, .inl (fun _ => 0))), ((h 4), .inl (cy 0, 2, .inl (fun _ => 0))), ((h 5), .inl (cy 0, 2, .inl (f 0))), ((h 12), .inl (cy 2, 2, .inl (f 1))), ((h 7), .inl (cy 0, 1200, .inl (fun _ => 0))), ((h 8), .inl (cy 0, 1200, .inl (fun _ => 0))), ((h 20), .inl (cy 2, 8, .inl (fun _ => 0))), ((h 21), .inl (cy 0, 8, .inl (fun _ => 0))), ((h 32), .inl (cy 0, 3, .inl f_4)), ((h 33), .inl (cy 0, 120, .inl (fun _ => 0))), ((h 34), .inl (cy 0, 120, .inl (fun _ => 0))), ((h 35), .inl (cy 0, 24, .inl (fun _ => 0))), ((h 36), .inl (cy 2, 24, .inl (fun _ => 0))), ((h 37), .inl (cy 2, 3, .inl f_5))] := hD
  refine lv_iinc (v := 19) (lv' := [(2, .int 19), (0, .ref mo), (1, .int 0)]) hx hb dX12_image_81 hl (k := 0) rfl (by decide) (by decide) rfl ?_
  clear hl
  try clear ls
  intro ls hl
  refine lv_goto (tgt := 33) hx hb dX12_image_84 (by decide) ?_
  refine lv_iload_n hx hb dX12_image_33 rfl (lv_at hl 0 rfl) ?_
  refine lv_bipush (v := 40) hx hb dX12_image_34 (by decide) ?_
  refine lv_icmp_ge (tgt := 87) hx hb dX12_image_36 (by decide) (fun c9 => absurd c9 (by decide)) (fun _ => ?_)
  refine lv_aload_n hx hb dX12_image_39 rfl (lv_at hl 1 rfl) ?_
  refine va_get (ci := 12) (v := .ref (h 33)) (C := RX12) (T := TX12) (N := 58) hx hb ht iX12 hown hK hP 0 rfl rfl 53 (by decide) (ht _ k_305) (fun _ h9 => h9) rfl dX12_image_40 ?_
  refine lv_bipush (v := 40) hx hb dX12_image_43 (by decide) ?_
  refine lv_iload_n hx hb dX12_image_45 rfl (lv_at hl 2 rfl) ?_
  refine lv_imul hx hb dX12_image_46 ?_
  refine ow_top 0 (by decide +kernel) ?_
  refine lv_iload_n hx hb dX12_image_47 rfl (lv_at hl 0 rfl) ?_
  refine lv_iadd hx hb dX12_image_48 ?_
  refine ow_top 19 (by decide +kernel) ?_
  refine lv_aload_n hx hb dX12_image_49 rfl (lv_at hl 1 rfl) ?_
  refine va_get (ci := 12) (v := .ref (h 7)) (C := RX12) (T := TX12) (N := 58) hx hb ht iX12 hown hK hP 0 rfl rfl 16 (by decide) (ht _ k_280) (fun _ h9 => h9) rfl dX12_image_50 ?_
  refine lv_sipush (v := 1120) hx hb dX12_image_53 (by decide) ?_
  refine lv_iload_n hx hb dX12_image_56 rfl (lv_at hl 0 rfl) ?_
  refine lv_iadd hx hb dX12_image_57 ?_
  refine ow_top 1139 (by decide +kernel) ?_
  refine va_iald hx hb hK hP 7 0 rfl rfl (in_lit (by decide +kernel)) dX12_image_58 ?_
  refine ow_top 0 rfl ?_
  refine ow_iastS hx hb hK hP hD hS 12 rfl (in_lit (by decide +kernel)) dX12_image_59 ?_
  clear hP hD hS
  try clear H locs
  intro H locs hP hD hS
  replace hP : va_P G vwCl [(mo, .inr (12, [.ref (h 0), .ref (h 1), .int 0, .int 0, .int 0, .int (-1), .int 0, .int 0, .int 0, .int 0, .long 0, .ref (h 2), .ref (h 3), .ref (h 4), .ref (h 5), .ref (h 6), .ref (h 7), .ref (h 8), .ref (h 9), .ref (h 10), .ref (h 11), .ref (h 12), .ref (h 13), .ref (h 14), .ref (h 15), .ref (h 16), .ref (h 17), .ref (h 18), .ref (h 19), .int 0, .int 0, .int 0, .int 0, .int 0, .int 0, .ref (h 20), .ref (h 21), .int 0, .ref (h 22), .ref (h 23), .ref (h 24), .ref (h 25), .ref (h 26), .int 0, .int 0, .ref (h 27), .ref (h 28), .ref (h 29), .ref (h 30), .ref (h 31), .int 0, .int 0, .ref (h 32), .ref (h 33), .ref (h 34), .ref (h 35), .ref (h 36), .ref (h 37)])), ((h 0), .inl (cy 1, 1720, .inl (fun _ => 0))), ((h 2), .inl (cy 0, 2, .inl (fun _ => 0))), ((h 3), .inl (cy 0, 2, .inl (fun _ => 0))), ((h 4), .inl (cy 0, 2, .inl (fun _ => 0))), ((h 5), .inl (cy 0, 2, .inl (f 0))), ((h 12), .inl (cy 2, 2, .inl (f 1))), ((h 7), .inl (cy 0, 1200, .inl (fun _ => 0))), ((h 8), .inl (cy 0, 1200, .inl (fun _ => 0))), ((h 20), .inl (cy 2, 8, .inl (fun _ => 0))), ((h 21), .inl (cy 0, 8, .inl (fun _ => 0))), ((h 32), .inl (cy 0, 3, .inl f_4)), ((h 33), .inl (cy 0, 120, .inl (fun _ => 0))), ((h 34), .inl (cy 0, 120, .inl (fun _ => 0))), ((h 35), .inl (cy 0, 24, .inl (fun _ => 0))), ((h 36), .inl (cy 2, 24, .inl (fun _ => 0))), ((h 37), .inl (cy 2, 3, .inl f_5))] H := hP
  replace hD : va_D A [(mo, .inr (12, [.ref (h 0), .ref (h 1), .int 0, .int 0, .int 0, .int (-1), .int 0, .int 0, .int 0, .int 0, .long 0, .ref (h 2), .ref (h 3), .ref (h 4), .ref (h 5), .ref (h 6), .ref (h 7), .ref (h 8), .ref (h 9), .ref (h 10), .ref (h 11), .ref (h 12), .ref (h 13), .ref (h 14), .ref (h 15), .ref (h 16), .ref (h 17), .ref (h 18), .ref (h 19), .int 0, .int 0, .int 0, .int 0, .int 0, .int 0, .ref (h 20), .ref (h 21), .int 0, .ref (h 22), .ref (h 23), .ref (h 24), .ref (h 25), .ref (h 26), .int 0, .int 0, .ref (h 27), .ref (h 28), .ref (h 29), .ref (h 30), .ref (h 31), .int 0, .int 0, .ref (h 32), .ref (h 33), .ref (h 34), .ref (h 35), .ref (h 36), .ref (h 37)])), ((h 0), .inl (cy 1, 1720, .inl (fun _ => 0))), ((h 2), .inl (cy 0, 2, .inl (fun _ => 0))), ((h 3), .inl (cy 0, 2, .inl (fun _ => 0))), ((h 4), .inl (cy 0, 2, .inl (fun _ => 0))), ((h 5), .inl (cy 0, 2, .inl (f 0))), ((h 12), .inl (cy 2, 2, .inl (f 1))), ((h 7), .inl (cy 0, 1200, .inl (fun _ => 0))), ((h 8), .inl (cy 0, 1200, .inl (fun _ => 0))), ((h 20), .inl (cy 2, 8, .inl (fun _ => 0))), ((h 21), .inl (cy 0, 8, .inl (fun _ => 0))), ((h 32), .inl (cy 0, 3, .inl f_4)), ((h 33), .inl (cy 0, 120, .inl (fun _ => 0))), ((h 34), .inl (cy 0, 120, .inl (fun _ => 0))), ((h 35), .inl (cy 0, 24, .inl (fun _ => 0))), ((h 36), .inl (cy 2, 24, .inl (fun _ => 0))), ((h 37), .inl (cy 2, 3, .inl f_5))] := hD
  refine lv_aload_n hx hb dX12_image_60 rfl (lv_at hl 1 rfl) ?_
  refine va_get (ci := 12) (v := .ref (h 34)) (C := RX12) (T := TX12) (N := 58) hx hb ht iX12 hown hK hP 0 rfl rfl 54 (by decide) (ht _ k_306) (fun _ h9 => h9) rfl dX12_image_61 ?_
  refine lv_bipush (v := 40) hx hb dX12_image_64 (by decide) ?_
  refine lv_iload_n hx hb dX12_image_66 rfl (lv_at hl 2 rfl) ?_
  refine lv_imul hx hb dX12_image_67 ?_
  refine ow_top 0 (by decide +kernel) ?_
  refine lv_iload_n hx hb dX12_image_68 rfl (lv_at hl 0 rfl) ?_
  refine lv_iadd hx hb dX12_image_69 ?_
  refine ow_top 19 (by decide +kernel) ?_
  refine lv_aload_n hx hb dX12_image_70 rfl (lv_at hl 1 rfl) ?_
  refine va_get (ci := 12) (v := .ref (h 8)) (C := RX12) (T := TX12) (N := 58) hx hb ht iX12 hown hK hP 0 rfl rfl 17 (by decide) (ht _ k_281) (fun _ h9 => h9) rfl dX12_image_71 ?_
  refine lv_sipush (v := 1120) hx hb dX12_image_74 (by decide) ?_
  refine lv_iload_n hx hb dX12_image_77 rfl (lv_at hl 0 rfl) ?_
  refine lv_iadd hx hb dX12_image_78 ?_
  refine ow_top 1139 (by decide +kernel) ?_
  refine va_iald hx hb hK hP 8 0 rfl rfl (in_lit (by decide +kernel)) dX12_image_79 ?_
  refine ow_top 0 rfl ?_
  refine ow_iastS hx hb hK hP hD hS 13 rfl (in_lit (by decide +kernel)) dX12_image_80 ?_
  clear hP hD hS
  try clear H locs
  intro H locs hP hD hS
  replace hP : va_P G vwCl [(mo, .inr (12, [.ref (h 0), .ref (h 1), .int 0, .int 0, .int 0, .int (-1), .int 0, .int 0, .int 0, .int 0, .long 0, .ref (h 2), .ref (h 3), .ref (h 4), .ref (h 5), .ref (h 6), .ref (h 7), .ref (h 8), .ref (h 9), .ref (h 10), .ref (h 11), .ref (h 12), .ref (h 13), .ref (h 14), .ref (h 15), .ref (h 16), .ref (h 17), .ref (h 18), .ref (h 19), .int 0, .int 0, .int 0, .int 0, .int 0, .int 0, .ref (h 20), .ref (h 21), .int 0, .ref (h 22), .ref (h 23), .ref (h 24), .ref (h 25), .ref (h 26), .int 0, .int 0, .ref (h 27), .ref (h 28), .ref (h 29), .ref (h 30), .ref (h 31), .int 0, .int 0, .ref (h 32), .ref (h 33), .ref (h 34), .ref (h 35), .ref (h 36), .ref (h 37)])), ((h 0), .inl (cy 1, 1720, .inl (fun _ => 0))), ((h 2), .inl (cy 0, 2, .inl (fun _ => 0))), ((h 3), .inl (cy 0, 2, .inl (fun _ => 0))), ((h 4), .inl (cy 0, 2, .inl (fun _ => 0))), ((h 5), .inl (cy 0, 2, .inl (f 0))), ((h 12), .inl (cy 2, 2, .inl (f 1))), ((h 7), .inl (cy 0, 1200, .inl (fun _ => 0))), ((h 8), .inl (cy 0, 1200, .inl (fun _ => 0))), ((h 20), .inl (cy 2, 8, .inl (fun _ => 0))), ((h 21), .inl (cy 0, 8, .inl (fun _ => 0))), ((h 32), .inl (cy 0, 3, .inl f_4)), ((h 33), .inl (cy 0, 120, .inl (fun _ => 0))), ((h 34), .inl (cy 0, 120, .inl (fun _ => 0))), ((h 35), .inl (cy 0, 24, .inl (fun _ => 0))), ((h 36), .inl (cy 2, 24, .inl (fun _ => 0))), ((h 37), .inl (cy 2, 3, .inl f_5))] H := hP
  replace hD : va_D A [(mo, .inr (12, [.ref (h 0), .ref (h 1), .int 0, .int 0, .int 0, .int (-1), .int 0, .int 0, .int 0, .int 0, .long 0, .ref (h 2), .ref (h 3), .ref (h 4), .ref (h 5), .ref (h 6), .ref (h 7), .ref (h 8), .ref (h 9), .ref (h 10), .ref (h 11), .ref (h 12), .ref (h 13), .ref (h 14), .ref (h 15), .ref (h 16), .ref (h 17), .ref (h 18), .ref (h 19), .int 0, .int 0, .int 0, .int 0, .int 0, .int 0, .ref (h 20), .ref (h 21), .int 0, .ref (h 22), .ref (h 23), .ref (h 24), .ref (h 25), .ref (h 26), .int 0, .int 0, .ref (h 27), .ref (h 28), .ref (h 29), .ref (h 30), .ref (h 31), .int 0, .int 0, .ref (h 32), .ref (h 33), .ref (h 34), .ref (h 35), .ref (h 36), .ref (h 37)])), ((h 0), .inl (cy 1, 1720, .inl (fun _ => 0))), ((h 2), .inl (cy 0, 2, .inl (fun _ => 0))), ((h 3), .inl (cy 0, 2, .inl (fun _ => 0))), ((h 4), .inl (cy 0, 2, .inl (fun _ => 0))), ((h 5), .inl (cy 0, 2, .inl (f 0))), ((h 12), .inl (cy 2, 2, .inl (f 1))), ((h 7), .inl (cy 0, 1200, .inl (fun _ => 0))), ((h 8), .inl (cy 0, 1200, .inl (fun _ => 0))), ((h 20), .inl (cy 2, 8, .inl (fun _ => 0))), ((h 21), .inl (cy 0, 8, .inl (fun _ => 0))), ((h 32), .inl (cy 0, 3, .inl f_4)), ((h 33), .inl (cy 0, 120, .inl (fun _ => 0))), ((h 34), .inl (cy 0, 120, .inl (fun _ => 0))), ((h 35), .inl (cy 0, 24, .inl (fun _ => 0))), ((h 36), .inl (cy 2, 24, .inl (fun _ => 0))), ((h 37), .inl (cy 2, 3, .inl f_5))] := hD
  refine lv_iinc (v := 20) (lv' := [(2, .int 20), (0, .ref mo), (1, .int 0)]) hx hb dX12_image_81 hl (k := 0) rfl (by decide) (by decide) rfl ?_
  clear hl
  try clear ls
  intro ls hl
  refine lv_goto (tgt := 33) hx hb dX12_image_84 (by decide) ?_
  refine lv_iload_n hx hb dX12_image_33 rfl (lv_at hl 0 rfl) ?_
  refine lv_bipush (v := 40) hx hb dX12_image_34 (by decide) ?_
  refine lv_icmp_ge (tgt := 87) hx hb dX12_image_36 (by decide) (fun c9 => absurd c9 (by decide)) (fun _ => ?_)
  refine lv_aload_n hx hb dX12_image_39 rfl (lv_at hl 1 rfl) ?_
  refine va_get (ci := 12) (v := .ref (h 33)) (C := RX12) (T := TX12) (N := 58) hx hb ht iX12 hown hK hP 0 rfl rfl 53 (by decide) (ht _ k_305) (fun _ h9 => h9) rfl dX12_image_40 ?_
  refine lv_bipush (v := 40) hx hb dX12_image_43 (by decide) ?_
  refine lv_iload_n hx hb dX12_image_45 rfl (lv_at hl 2 rfl) ?_
  refine lv_imul hx hb dX12_image_46 ?_
  refine ow_top 0 (by decide +kernel) ?_
  refine lv_iload_n hx hb dX12_image_47 rfl (lv_at hl 0 rfl) ?_
  refine lv_iadd hx hb dX12_image_48 ?_
  refine ow_top 20 (by decide +kernel) ?_
  refine lv_aload_n hx hb dX12_image_49 rfl (lv_at hl 1 rfl) ?_
  refine va_get (ci := 12) (v := .ref (h 7)) (C := RX12) (T := TX12) (N := 58) hx hb ht iX12 hown hK hP 0 rfl rfl 16 (by decide) (ht _ k_280) (fun _ h9 => h9) rfl dX12_image_50 ?_
  refine lv_sipush (v := 1120) hx hb dX12_image_53 (by decide) ?_
  refine lv_iload_n hx hb dX12_image_56 rfl (lv_at hl 0 rfl) ?_
  refine lv_iadd hx hb dX12_image_57 ?_
  refine ow_top 1140 (by decide +kernel) ?_
  refine va_iald hx hb hK hP 7 0 rfl rfl (in_lit (by decide +kernel)) dX12_image_58 ?_
  refine ow_top 0 rfl ?_
  refine ow_iastS hx hb hK hP hD hS 12 rfl (in_lit (by decide +kernel)) dX12_image_59 ?_
  clear hP hD hS
  try clear H locs
  intro H locs hP hD hS
  replace hP : va_P G vwCl [(mo, .inr (12, [.ref (h 0), .ref (h 1), .int 0, .int 0, .int 0, .int (-1), .int 0, .int 0, .int 0, .int 0, .long 0, .ref (h 2), .ref (h 3), .ref (h 4), .ref (h 5), .ref (h 6), .ref (h 7), .ref (h 8), .ref (h 9), .ref (h 10), .ref (h 11), .ref (h 12), .ref (h 13), .ref (h 14), .ref (h 15), .ref (h 16), .ref (h 17), .ref (h 18), .ref (h 19), .int 0, .int 0, .int 0, .int 0, .int 0, .int 0, .ref (h 20), .ref (h 21), .int 0, .ref (h 22), .ref (h 23), .ref (h 24), .ref (h 25), .ref (h 26), .int 0, .int 0, .ref (h 27), .ref (h 28), .ref (h 29), .ref (h 30), .ref (h 31), .int 0, .int 0, .ref (h 32), .ref (h 33), .ref (h 34), .ref (h 35), .ref (h 36), .ref (h 37)])), ((h 0), .inl (cy 1, 1720, .inl (fun _ => 0))), ((h 2), .inl (cy 0, 2, .inl (fun _ => 0))), ((h 3), .inl (cy 0, 2, .inl (fun _ => 0))), ((h 4), .inl (cy 0, 2, .inl (fun _ => 0))), ((h 5), .inl (cy 0, 2, .inl (f 0))), ((h 12), .inl (cy 2, 2, .inl (f 1))), ((h 7), .inl (cy 0, 1200, .inl (fun _ => 0))), ((h 8), .inl (cy 0, 1200, .inl (fun _ => 0))), ((h 20), .inl (cy 2, 8, .inl (fun _ => 0))), ((h 21), .inl (cy 0, 8, .inl (fun _ => 0))), ((h 32), .inl (cy 0, 3, .inl f_4)), ((h 33), .inl (cy 0, 120, .inl (fun _ => 0))), ((h 34), .inl (cy 0, 120, .inl (fun _ => 0))), ((h 35), .inl (cy 0, 24, .inl (fun _ => 0))), ((h 36), .inl (cy 2, 24, .inl (fun _ => 0))), ((h 37), .inl (cy 2, 3, .inl f_5))] H := hP
  replace hD : va_D A [(mo, .inr (12, [.ref (h 0), .ref (h 1), .int 0, .int 0, .int 0, .int (-1), .int 0, .int 0, .int 0, .int 0, .long 0, .ref (h 2), .ref (h 3), .ref (h 4), .ref (h 5), .ref (h 6), .ref (h 7), .ref (h 8), .ref (h 9), .ref (h 10), .ref (h 11), .ref (h 12), .ref (h 13), .ref (h 14), .ref (h 15), .ref (h 16), .ref (h 17), .ref (h 18), .ref (h 19), .int 0, .int 0, .int 0, .int 0, .int 0, .int 0, .ref (h 20), .ref (h 21), .int 0, .ref (h 22), .ref (h 23), .ref (h 24), .ref (h 25), .ref (h 26), .int 0, .int 0, .ref (h 27), .ref (h 28), .ref (h 29), .ref (h 30), .ref (h 31), .int 0, .int 0, .ref (h 32), .ref (h 33), .ref (h 34), .ref (h 35), .ref (h 36), .ref (h 37)])), ((h 0), .inl (cy 1, 1720, .inl (fun _ => 0))), ((h 2), .inl (cy 0, 2, .inl (fun _ => 0))), ((h 3), .inl (cy 0, 2, .inl (fun _ => 0))), ((h 4), .inl (cy 0, 2, .inl (fun _ => 0))), ((h 5), .inl (cy 0, 2, .inl (f 0))), ((h 12), .inl (cy 2, 2, .inl (f 1))), ((h 7), .inl (cy 0, 1200, .inl (fun _ => 0))), ((h 8), .inl (cy 0, 1200, .inl (fun _ => 0))), ((h 20), .inl (cy 2, 8, .inl (fun _ => 0))), ((h 21), .inl (cy 0, 8, .inl (fun _ => 0))), ((h 32), .inl (cy 0, 3, .inl f_4)), ((h 33), .inl (cy 0, 120, .inl (fun _ => 0))), ((h 34), .inl (cy 0, 120, .inl (fun _ => 0))), ((h 35), .inl (cy 0, 24, .inl (fun _ => 0))), ((h 36), .inl (cy 2, 24, .inl (fun _ => 0))), ((h 37), .inl (cy 2, 3, .inl f_5))] := hD
  refine lv_aload_n hx hb dX12_image_60 rfl (lv_at hl 1 rfl) ?_
  refine va_get (ci := 12) (v := .ref (h 34)) (C := RX12) (T := TX12) (N := 58) hx hb ht iX12 hown hK hP 0 rfl rfl 54 (by decide) (ht _ k_306) (fun _ h9 => h9) rfl dX12_image_61 ?_
  refine lv_bipush (v := 40) hx hb dX12_image_64 (by decide) ?_
  refine lv_iload_n hx hb dX12_image_66 rfl (lv_at hl 2 rfl) ?_
  refine lv_imul hx hb dX12_image_67 ?_
  refine ow_top 0 (by decide +kernel) ?_
  refine lv_iload_n hx hb dX12_image_68 rfl (lv_at hl 0 rfl) ?_
  refine lv_iadd hx hb dX12_image_69 ?_
  refine ow_top 20 (by decide +kernel) ?_
  refine lv_aload_n hx hb dX12_image_70 rfl (lv_at hl 1 rfl) ?_
  refine va_get (ci := 12) (v := .ref (h 8)) (C := RX12) (T := TX12) (N := 58) hx hb ht iX12 hown hK hP 0 rfl rfl 17 (by decide) (ht _ k_281) (fun _ h9 => h9) rfl dX12_image_71 ?_
  refine lv_sipush (v := 1120) hx hb dX12_image_74 (by decide) ?_
  refine lv_iload_n hx hb dX12_image_77 rfl (lv_at hl 0 rfl) ?_
  refine lv_iadd hx hb dX12_image_78 ?_
  refine ow_top 1140 (by decide +kernel) ?_
  refine va_iald hx hb hK hP 8 0 rfl rfl (in_lit (by decide +kernel)) dX12_image_79 ?_
  refine ow_top 0 rfl ?_
  refine ow_iastS hx hb hK hP hD hS 13 rfl (in_lit (by decide +kernel)) dX12_image_80 ?_
  clear hP hD hS
  try clear H locs
  intro H locs hP hD hS
  replace hP : va_P G vwCl [(mo, .inr (12, [.ref (h 0), .ref (h 1), .int 0, .int 0, .int 0, .int (-1), .int 0, .int 0, .int 0, .int 0, .long 0, .ref (h 2), .ref (h 3), .ref (h 4), .ref (h 5), .ref (h 6), .ref (h 7), .ref (h 8), .ref (h 9), .ref (h 10), .ref (h 11), .ref (h 12), .ref (h 13), .ref (h 14), .ref (h 15), .ref (h 16), .ref (h 17), .ref (h 18), .ref (h 19), .int 0, .int 0, .int 0, .int 0, .int 0, .int 0, .ref (h 20), .ref (h 21), .int 0, .ref (h 22), .ref (h 23), .ref (h 24), .ref (h 25), .ref (h 26), .int 0, .int 0, .ref (h 27), .ref (h 28), .ref (h 29), .ref (h 30), .ref (h 31), .int 0, .int 0, .ref (h 32), .ref (h 33), .ref (h 34), .ref (h 35), .ref (h 36), .ref (h 37)])), ((h 0), .inl (cy 1, 1720, .inl (fun _ => 0))), ((h 2), .inl (cy 0, 2, .inl (fun _ => 0))), ((h 3), .inl (cy 0, 2, .inl (fun _ => 0))), ((h 4), .inl (cy 0, 2, .inl (fun _ => 0))), ((h 5), .inl (cy 0, 2, .inl (f 0))), ((h 12), .inl (cy 2, 2, .inl (f 1))), ((h 7), .inl (cy 0, 1200, .inl (fun _ => 0))), ((h 8), .inl (cy 0, 1200, .inl (fun _ => 0))), ((h 20), .inl (cy 2, 8, .inl (fun _ => 0))), ((h 21), .inl (cy 0, 8, .inl (fun _ => 0))), ((h 32), .inl (cy 0, 3, .inl f_4)), ((h 33), .inl (cy 0, 120, .inl (fun _ => 0))), ((h 34), .inl (cy 0, 120, .inl (fun _ => 0))), ((h 35), .inl (cy 0, 24, .inl (fun _ => 0))), ((h 36), .inl (cy 2, 24, .inl (fun _ => 0))), ((h 37), .inl (cy 2, 3, .inl f_5))] H := hP
  replace hD : va_D A [(mo, .inr (12, [.ref (h 0), .ref (h 1), .int 0, .int 0, .int 0, .int (-1), .int 0, .int 0, .int 0, .int 0, .long 0, .ref (h 2), .ref (h 3), .ref (h 4), .ref (h 5), .ref (h 6), .ref (h 7), .ref (h 8), .ref (h 9), .ref (h 10), .ref (h 11), .ref (h 12), .ref (h 13), .ref (h 14), .ref (h 15), .ref (h 16), .ref (h 17), .ref (h 18), .ref (h 19), .int 0, .int 0, .int 0, .int 0, .int 0, .int 0, .ref (h 20), .ref (h 21), .int 0, .ref (h 22), .ref (h 23), .ref (h 24), .ref (h 25), .ref (h 26), .int 0, .int 0, .ref (h 27), .ref (h 28), .ref (h 29), .ref (h 30), .ref (h 31), .int 0, .int 0, .ref (h 32), .ref (h 33), .ref (h 34), .ref (h 35), .ref (h 36), .ref (h 37)])), ((h 0), .inl (cy 1, 1720, .inl (fun _ => 0))), ((h 2), .inl (cy 0, 2, .inl (fun _ => 0))), ((h 3), .inl (cy 0, 2, .inl (fun _ => 0))), ((h 4), .inl (cy 0, 2, .inl (fun _ => 0))), ((h 5), .inl (cy 0, 2, .inl (f 0))), ((h 12), .inl (cy 2, 2, .inl (f 1))), ((h 7), .inl (cy 0, 1200, .inl (fun _ => 0))), ((h 8), .inl (cy 0, 1200, .inl (fun _ => 0))), ((h 20), .inl (cy 2, 8, .inl (fun _ => 0))), ((h 21), .inl (cy 0, 8, .inl (fun _ => 0))), ((h 32), .inl (cy 0, 3, .inl f_4)), ((h 33), .inl (cy 0, 120, .inl (fun _ => 0))), ((h 34), .inl (cy 0, 120, .inl (fun _ => 0))), ((h 35), .inl (cy 0, 24, .inl (fun _ => 0))), ((h 36), .inl (cy 2, 24, .inl (fun _ => 0))), ((h 37), .inl (cy 2, 3, .inl f_5))] := hD
  refine lv_iinc (v := 21) (lv' := [(2, .int 21), (0, .ref mo), (1, .int 0)]) hx hb dX12_image_81 hl (k := 0) rfl (by decide) (by decide) rfl ?_
  clear hl
  try clear ls
  intro ls hl
  refine lv_goto (tgt := 33) hx hb dX12_image_84 (by decide) ?_
  refine lv_iload_n hx hb dX12_image_33 rfl (lv_at hl 0 rfl) ?_
  refine lv_bipush (v := 40) hx hb dX12_image_34 (by decide) ?_
  refine lv_icmp_ge (tgt := 87) hx hb dX12_image_36 (by decide) (fun c9 => absurd c9 (by decide)) (fun _ => ?_)
  refine lv_aload_n hx hb dX12_image_39 rfl (lv_at hl 1 rfl) ?_
  refine va_get (ci := 12) (v := .ref (h 33)) (C := RX12) (T := TX12) (N := 58) hx hb ht iX12 hown hK hP 0 rfl rfl 53 (by decide) (ht _ k_305) (fun _ h9 => h9) rfl dX12_image_40 ?_
  refine lv_bipush (v := 40) hx hb dX12_image_43 (by decide) ?_
  refine lv_iload_n hx hb dX12_image_45 rfl (lv_at hl 2 rfl) ?_
  refine lv_imul hx hb dX12_image_46 ?_
  refine ow_top 0 (by decide +kernel) ?_
  refine lv_iload_n hx hb dX12_image_47 rfl (lv_at hl 0 rfl) ?_
  refine lv_iadd hx hb dX12_image_48 ?_
  refine ow_top 21 (by decide +kernel) ?_
  refine lv_aload_n hx hb dX12_image_49 rfl (lv_at hl 1 rfl) ?_
  refine va_get (ci := 12) (v := .ref (h 7)) (C := RX12) (T := TX12) (N := 58) hx hb ht iX12 hown hK hP 0 rfl rfl 16 (by decide) (ht _ k_280) (fun _ h9 => h9) rfl dX12_image_50 ?_
  refine lv_sipush (v := 1120) hx hb dX12_image_53 (by decide) ?_
  refine lv_iload_n hx hb dX12_image_56 rfl (lv_at hl 0 rfl) ?_
  refine lv_iadd hx hb dX12_image_57 ?_
  refine ow_top 1141 (by decide +kernel) ?_
  refine va_iald hx hb hK hP 7 0 rfl rfl (in_lit (by decide +kernel)) dX12_image_58 ?_
  refine ow_top 0 rfl ?_
  refine ow_iastS hx hb hK hP hD hS 12 rfl (in_lit (by decide +kernel)) dX12_image_59 ?_
  clear hP hD hS
  try clear H locs
  intro H locs hP hD hS
  replace hP : va_P G vwCl [(mo, .inr (12, [.ref (h 0), .ref (h 1), .int 0, .int 0, .int 0, .int (-1), .int 0, .int 0, .int 0, .int 0, .long 0, .ref (h 2), .ref (h 3), .ref (h 4), .ref (h 5), .ref (h 6), .ref (h 7), .ref (h 8), .ref (h 9), .ref (h 10), .ref (h 11), .ref (h 12), .ref (h 13), .ref (h 14), .ref (h 15), .ref (h 16), .ref (h 17), .ref (h 18), .ref (h 19), .int 0, .int 0, .int 0, .int 0, .int 0, .int 0, .ref (h 20), .ref (h 21), .int 0, .ref (h 22), .ref (h 23), .ref (h 24), .ref (h 25), .ref (h 26), .int 0, .int 0, .ref (h 27), .ref (h 28), .ref (h 29), .ref (h 30), .ref (h 31), .int 0, .int 0, .ref (h 32), .ref (h 33), .ref (h 34), .ref (h 35), .ref (h 36), .ref (h 37)])), ((h 0), .inl (cy 1, 1720, .inl (fun _ => 0))), ((h 2), .inl (cy 0, 2, .inl (fun _ => 0))), ((h 3), .inl (cy 0, 2, .inl (fun _ => 0))), ((h 4), .inl (cy 0, 2, .inl (fun _ => 0))), ((h 5), .inl (cy 0, 2, .inl (f 0))), ((h 12), .inl (cy 2, 2, .inl (f 1))), ((h 7), .inl (cy 0, 1200, .inl (fun _ => 0))), ((h 8), .inl (cy 0, 1200, .inl (fun _ => 0))), ((h 20), .inl (cy 2, 8, .inl (fun _ => 0))), ((h 21), .inl (cy 0, 8, .inl (fun _ => 0))), ((h 32), .inl (cy 0, 3, .inl f_4)), ((h 33), .inl (cy 0, 120, .inl (fun _ => 0))), ((h 34), .inl (cy 0, 120, .inl (fun _ => 0))), ((h 35), .inl (cy 0, 24, .inl (fun _ => 0))), ((h 36), .inl (cy 2, 24, .inl (fun _ => 0))), ((h 37), .inl (cy 2, 3, .inl f_5))] H := hP
  replace hD : va_D A [(mo, .inr (12, [.ref (h 0), .ref (h 1), .int 0, .int 0, .int 0, .int (-1), .int 0, .int 0, .int 0, .int 0, .long 0, .ref (h 2), .ref (h 3), .ref (h 4), .ref (h 5), .ref (h 6), .ref (h 7), .ref (h 8), .ref (h 9), .ref (h 10), .ref (h 11), .ref (h 12), .ref (h 13), .ref (h 14), .ref (h 15), .ref (h 16), .ref (h 17), .ref (h 18), .ref (h 19), .int 0, .int 0, .int 0, .int 0, .int 0, .int 0, .ref (h 20), .ref (h 21), .int 0, .ref (h 22), .ref (h 23), .ref (h 24), .ref (h 25), .ref (h 26), .int 0, .int 0, .ref (h 27), .ref (h 28), .ref (h 29), .ref (h 30), .ref (h 31), .int 0, .int 0, .ref (h 32), .ref (h 33), .ref (h 34), .ref (h 35), .ref (h 36), .ref (h 37)])), ((h 0), .inl (cy 1, 1720, .inl (fun _ => 0))), ((h 2), .inl (cy 0, 2, .inl (fun _ => 0))), ((h 3), .inl (cy 0, 2, .inl (fun _ => 0))), ((h 4), .inl (cy 0, 2, .inl (fun _ => 0))), ((h 5), .inl (cy 0, 2, .inl (f 0))), ((h 12), .inl (cy 2, 2, .inl (f 1))), ((h 7), .inl (cy 0, 1200, .inl (fun _ => 0))), ((h 8), .inl (cy 0, 1200, .inl (fun _ => 0))), ((h 20), .inl (cy 2, 8, .inl (fun _ => 0))), ((h 21), .inl (cy 0, 8, .inl (fun _ => 0))), ((h 32), .inl (cy 0, 3, .inl f_4)), ((h 33), .inl (cy 0, 120, .inl (fun _ => 0))), ((h 34), .inl (cy 0, 120, .inl (fun _ => 0))), ((h 35), .inl (cy 0, 24, .inl (fun _ => 0))), ((h 36), .inl (cy 2, 24, .inl (fun _ => 0))), ((h 37), .inl (cy 2, 3, .inl f_5))] := hD
  refine lv_aload_n hx hb dX12_image_60 rfl (lv_at hl 1 rfl) ?_
  refine va_get (ci := 12) (v := .ref (h 34)) (C := RX12) (T := TX12) (N := 58) hx hb ht iX12 hown hK hP 0 rfl rfl 54 (by decide) (ht _ k_306) (fun _ h9 => h9) rfl dX12_image_61 ?_
  refine lv_bipush (v := 40) hx hb dX12_image_64 (by decide) ?_
  refine lv_iload_n hx hb dX12_image_66 rfl (lv_at hl 2 rfl) ?_
  refine lv_imul hx hb dX12_image_67 ?_
  refine ow_top 0 (by decide +kernel) ?_
  refine lv_iload_n hx hb dX12_image_68 rfl (lv_at hl 0 rfl) ?_
  refine lv_iadd hx hb dX12_image_69 ?_
  refine ow_top 21 (by decide +kernel) ?_
  refine lv_aload_n hx hb dX12_image_70 rfl (lv_at hl 1 rfl) ?_
  refine va_get (ci := 12) (v := .ref (h 8)) (C := RX12) (T := TX12) (N := 58) hx hb ht iX12 hown hK hP 0 rfl rfl 17 (by decide) (ht _ k_281) (fun _ h9 => h9) rfl dX12_image_71 ?_
  refine lv_sipush (v := 1120) hx hb dX12_image_74 (by decide) ?_
  refine lv_iload_n hx hb dX12_image_77 rfl (lv_at hl 0 rfl) ?_
  refine lv_iadd hx hb dX12_image_78 ?_
  refine ow_top 1141 (by decide +kernel) ?_
  refine va_iald hx hb hK hP 8 0 rfl rfl (in_lit (by decide +kernel)) dX12_image_79 ?_
  refine ow_top 0 rfl ?_
  refine ow_iastS hx hb hK hP hD hS 13 rfl (in_lit (by decide +kernel)) dX12_image_80 ?_
  clear hP hD hS
  try clear H locs
  intro H locs hP hD hS
  replace hP : va_P G vwCl [(mo, .inr (12, [.ref (h 0), .ref (h 1), .int 0, .int 0, .int 0, .int (-1), .int 0, .int 0, .int 0, .int 0, .long 0, .ref (h 2), .ref (h 3), .ref (h 4), .ref (h 5), .ref (h 6), .ref (h 7), .ref (h 8), .ref (h 9), .ref (h 10), .ref (h 11), .ref (h 12), .ref (h 13), .ref (h 14), .ref (h 15), .ref (h 16), .ref (h 17), .ref (h 18), .ref (h 19), .int 0, .int 0, .int 0, .int 0, .int 0, .int 0, .ref (h 20), .ref (h 21), .int 0, .ref (h 22), .ref (h 23), .ref (h 24), .ref (h 25), .ref (h 26), .int 0, .int 0, .ref (h 27), .ref (h 28), .ref (h 29), .ref (h 30), .ref (h 31), .int 0, .int 0, .ref (h 32), .ref (h 33), .ref (h 34), .ref (h 35), .ref (h 36), .ref (h 37)])), ((h 0), .inl (cy 1, 1720, .inl (fun _ => 0))), ((h 2), .inl (cy 0, 2, .inl (fun _ => 0))), ((h 3), .inl (cy 0, 2, .inl (fun _ => 0))), ((h 4), .inl (cy 0, 2, .inl (fun _ => 0))), ((h 5), .inl (cy 0, 2, .inl (f 0))), ((h 12), .inl (cy 2, 2, .inl (f 1))), ((h 7), .inl (cy 0, 1200, .inl (fun _ => 0))), ((h 8), .inl (cy 0, 1200, .inl (fun _ => 0))), ((h 20), .inl (cy 2, 8, .inl (fun _ => 0))), ((h 21), .inl (cy 0, 8, .inl (fun _ => 0))), ((h 32), .inl (cy 0, 3, .inl f_4)), ((h 33), .inl (cy 0, 120, .inl (fun _ => 0))), ((h 34), .inl (cy 0, 120, .inl (fun _ => 0))), ((h 35), .inl (cy 0, 24, .inl (fun _ => 0))), ((h 36), .inl (cy 2, 24, .inl (fun _ => 0))), ((h 37), .inl (cy 2, 3, .inl f_5))] H := hP
  replace hD : va_D A [(mo, .inr (12, [.ref (h 0), .ref (h 1), .int 0, .int 0, .int 0, .int (-1), .int 0, .int 0, .int 0, .int 0, .long 0, .ref (h 2), .ref (h 3), .ref (h 4), .ref (h 5), .ref (h 6), .ref (h 7), .ref (h 8), .ref (h 9), .ref (h 10), .ref (h 11), .ref (h 12), .ref (h 13), .ref (h 14), .ref (h 15), .ref (h 16), .ref (h 17), .ref (h 18), .ref (h 19), .int 0, .int 0, .int 0, .int 0, .int 0, .int 0, .ref (h 20), .ref (h 21), .int 0, .ref (h 22), .ref (h 23), .ref (h 24), .ref (h 25), .ref (h 26), .int 0, .int 0, .ref (h 27), .ref (h 28), .ref (h 29), .ref (h 30), .ref (h 31), .int 0, .int 0, .ref (h 32), .ref (h 33), .ref (h 34), .ref (h 35), .ref (h 36), .ref (h 37)])), ((h 0), .inl (cy 1, 1720, .inl (fun _ => 0))), ((h 2), .inl (cy 0, 2, .inl (fun _ => 0))), ((h 3), .inl (cy 0, 2, .inl (fun _ => 0))), ((h 4), .inl (cy 0, 2, .inl (fun _ => 0))), ((h 5), .inl (cy 0, 2, .inl (f 0))), ((h 12), .inl (cy 2, 2, .inl (f 1))), ((h 7), .inl (cy 0, 1200, .inl (fun _ => 0))), ((h 8), .inl (cy 0, 1200, .inl (fun _ => 0))), ((h 20), .inl (cy 2, 8, .inl (fun _ => 0))), ((h 21), .inl (cy 0, 8, .inl (fun _ => 0))), ((h 32), .inl (cy 0, 3, .inl f_4)), ((h 33), .inl (cy 0, 120, .inl (fun _ => 0))), ((h 34), .inl (cy 0, 120, .inl (fun _ => 0))), ((h 35), .inl (cy 0, 24, .inl (fun _ => 0))), ((h 36), .inl (cy 2, 24, .inl (fun _ => 0))), ((h 37), .inl (cy 2, 3, .inl f_5))] := hD
  refine lv_iinc (v := 22) (lv' := [(2, .int 22), (0, .ref mo), (1, .int 0)]) hx hb dX12_image_81 hl (k := 0) rfl (by decide) (by decide) rfl ?_
  clear hl
  try clear ls
  intro ls hl
  refine lv_goto (tgt := 33) hx hb dX12_image_84 (by decide) ?_
  refine lv_iload_n hx hb dX12_image_33 rfl (lv_at hl 0 rfl) ?_
  refine lv_bipush (v := 40) hx hb dX12_image_34 (by decide) ?_
  refine lv_icmp_ge (tgt := 87) hx hb dX12_image_36 (by decide) (fun c9 => absurd c9 (by decide)) (fun _ => ?_)
  refine lv_aload_n hx hb dX12_image_39 rfl (lv_at hl 1 rfl) ?_
  refine va_get (ci := 12) (v := .ref (h 33)) (C := RX12) (T := TX12) (N := 58) hx hb ht iX12 hown hK hP 0 rfl rfl 53 (by decide) (ht _ k_305) (fun _ h9 => h9) rfl dX12_image_40 ?_
  refine lv_bipush (v := 40) hx hb dX12_image_43 (by decide) ?_
  refine lv_iload_n hx hb dX12_image_45 rfl (lv_at hl 2 rfl) ?_
  refine lv_imul hx hb dX12_image_46 ?_
  refine ow_top 0 (by decide +kernel) ?_
  refine lv_iload_n hx hb dX12_image_47 rfl (lv_at hl 0 rfl) ?_
  refine lv_iadd hx hb dX12_image_48 ?_
  refine ow_top 22 (by decide +kernel) ?_
  refine lv_aload_n hx hb dX12_image_49 rfl (lv_at hl 1 rfl) ?_
  refine va_get (ci := 12) (v := .ref (h 7)) (C := RX12) (T := TX12) (N := 58) hx hb ht iX12 hown hK hP 0 rfl rfl 16 (by decide) (ht _ k_280) (fun _ h9 => h9) rfl dX12_image_50 ?_
  refine lv_sipush (v := 1120) hx hb dX12_image_53 (by decide) ?_
  refine lv_iload_n hx hb dX12_image_56 rfl (lv_at hl 0 rfl) ?_
  refine lv_iadd hx hb dX12_image_57 ?_
  refine ow_top 1142 (by decide +kernel) ?_
  refine va_iald hx hb hK hP 7 0 rfl rfl (in_lit (by decide +kernel)) dX12_image_58 ?_
  refine ow_top 0 rfl ?_
  refine ow_iastS hx hb hK hP hD hS 12 rfl (in_lit (by decide +kernel)) dX12_image_59 ?_
  clear hP hD hS
  try clear H locs
  intro H locs hP hD hS
  replace hP : va_P G vwCl [(mo, .inr (12, [.ref (h 0), .ref (h 1), .int 0, .int 0, .int 0, .int (-1), .int 0, .int 0, .int 0, .int 0, .long 0, .ref (h 2), .ref (h 3), .ref (h 4), .ref (h 5), .ref (h 6), .ref (h 7), .ref (h 8), .ref (h 9), .ref (h 10), .ref (h 11), .ref (h 12), .ref (h 13), .ref (h 14), .ref (h 15), .ref (h 16), .ref (h 17), .ref (h 18), .ref (h 19), .int 0, .int 0, .int 0, .int 0, .int 0, .int 0, .ref (h 20), .ref (h 21), .int 0, .ref (h 22), .ref (h 23), .ref (h 24), .ref (h 25), .ref (h 26), .int 0, .int 0, .ref (h 27), .ref (h 28), .ref (h 29), .ref (h 30), .ref (h 31), .int 0, .int 0, .ref (h 32), .ref (h 33), .ref (h 34), .ref (h 35), .ref (h 36), .ref (h 37)])), ((h 0), .inl (cy 1, 1720, .inl (fun _ => 0))), ((h 2), .inl (cy 0, 2, .inl (fun _ => 0))), ((h 3), .inl (cy 0, 2, .inl (fun _ => 0))), ((h 4), .inl (cy 0, 2, .inl (fun _ => 0))), ((h 5), .inl (cy 0, 2, .inl (f 0))), ((h 12), .inl (cy 2, 2, .inl (f 1))), ((h 7), .inl (cy 0, 1200, .inl (fun _ => 0))), ((h 8), .inl (cy 0, 1200, .inl (fun _ => 0))), ((h 20), .inl (cy 2, 8, .inl (fun _ => 0))), ((h 21), .inl (cy 0, 8, .inl (fun _ => 0))), ((h 32), .inl (cy 0, 3, .inl f_4)), ((h 33), .inl (cy 0, 120, .inl (fun _ => 0))), ((h 34), .inl (cy 0, 120, .inl (fun _ => 0))), ((h 35), .inl (cy 0, 24, .inl (fun _ => 0))), ((h 36), .inl (cy 2, 24, .inl (fun _ => 0))), ((h 37), .inl (cy 2, 3, .inl f_5))] H := hP
  replace hD : va_D A [(mo, .inr (12, [.ref (h 0), .ref (h 1), .int 0, .int 0, .int 0, .int (-1), .int 0, .int 0, .int 0, .int 0, .long 0, .ref (h 2), .ref (h 3), .ref (h 4), .ref (h 5), .ref (h 6), .ref (h 7), .ref (h 8), .ref (h 9), .ref (h 10), .ref (h 11), .ref (h 12), .ref (h 13), .ref (h 14), .ref (h 15), .ref (h 16), .ref (h 17), .ref (h 18), .ref (h 19), .int 0, .int 0, .int 0, .int 0, .int 0, .int 0, .ref (h 20), .ref (h 21), .int 0, .ref (h 22), .ref (h 23), .ref (h 24), .ref (h 25), .ref (h 26), .int 0, .int 0, .ref (h 27), .ref (h 28), .ref (h 29), .ref (h 30), .ref (h 31), .int 0, .int 0, .ref (h 32), .ref (h 33), .ref (h 34), .ref (h 35), .ref (h 36), .ref (h 37)])), ((h 0), .inl (cy 1, 1720, .inl (fun _ => 0))), ((h 2), .inl (cy 0, 2, .inl (fun _ => 0))), ((h 3), .inl (cy 0, 2, .inl (fun _ => 0))), ((h 4), .inl (cy 0, 2, .inl (fun _ => 0))), ((h 5), .inl (cy 0, 2, .inl (f 0))), ((h 12), .inl (cy 2, 2, .inl (f 1))), ((h 7), .inl (cy 0, 1200, .inl (fun _ => 0))), ((h 8), .inl (cy 0, 1200, .inl (fun _ => 0))), ((h 20), .inl (cy 2, 8, .inl (fun _ => 0))), ((h 21), .inl (cy 0, 8, .inl (fun _ => 0))), ((h 32), .inl (cy 0, 3, .inl f_4)), ((h 33), .inl (cy 0, 120, .inl (fun _ => 0))), ((h 34), .inl (cy 0, 120, .inl (fun _ => 0))), ((h 35), .inl (cy 0, 24, .inl (fun _ => 0))), ((h 36), .inl (cy 2, 24, .inl (fun _ => 0))), ((h 37), .inl (cy 2, 3, .inl f_5))] := hD
  refine lv_aload_n hx hb dX12_image_60 rfl (lv_at hl 1 rfl) ?_
  refine va_get (ci := 12) (v := .ref (h 34)) (C := RX12) (T := TX12) (N := 58) hx hb ht iX12 hown hK hP 0 rfl rfl 54 (by decide) (ht _ k_306) (fun _ h9 => h9) rfl dX12_image_61 ?_
  refine lv_bipush (v := 40) hx hb dX12_image_64 (by decide) ?_
  refine lv_iload_n hx hb dX12_image_66 rfl (lv_at hl 2 rfl) ?_
  refine lv_imul hx hb dX12_image_67 ?_
  refine ow_top 0 (by decide +kernel) ?_
  refine lv_iload_n hx hb dX12_image_68 rfl (lv_at hl 0 rfl) ?_
  refine lv_iadd hx hb dX12_image_69 ?_
  refine ow_top 22 (by decide +kernel) ?_
  refine lv_aload_n hx hb dX12_image_70 rfl (lv_at hl 1 rfl) ?_
  refine va_get (ci := 12) (v := .ref (h 8)) (C := RX12) (T := TX12) (N := 58) hx hb ht iX12 hown hK hP 0 rfl rfl 17 (by decide) (ht _ k_281) (fun _ h9 => h9) rfl dX12_image_71 ?_
  refine lv_sipush (v := 1120) hx hb dX12_image_74 (by decide) ?_
  refine lv_iload_n hx hb dX12_image_77 rfl (lv_at hl 0 rfl) ?_
  refine lv_iadd hx hb dX12_image_78 ?_
  refine ow_top 1142 (by decide +kernel) ?_
  refine va_iald hx hb hK hP 8 0 rfl rfl (in_lit (by decide +kernel)) dX12_image_79 ?_
  refine ow_top 0 rfl ?_
  refine ow_iastS hx hb hK hP hD hS 13 rfl (in_lit (by decide +kernel)) dX12_image_80 ?_
  clear hP hD hS
  try clear H locs
  intro H locs hP hD hS
  replace hP : va_P G vwCl [(mo, .inr (12, [.ref (h 0), .ref (h 1), .int 0, .int 0, .int 0, .int (-1), .int 0, .int 0, .int 0, .int 0, .long 0, .ref (h 2), .ref (h 3), .ref (h 4), .ref (h 5), .ref (h 6), .ref (h 7), .ref (h 8), .ref (h 9), .ref (h 10), .ref (h 11), .ref (h 12), .ref (h 13), .ref (h 14), .ref (h 15), .ref (h 16), .ref (h 17), .ref (h 18), .ref (h 19), .int 0, .int 0, .int 0, .int 0, .int 0, .int 0, .ref (h 20), .ref (h 21), .int 0, .ref (h 22), .ref (h 23), .ref (h 24), .ref (h 25), .ref (h 26), .int 0, .int 0, .ref (h 27), .ref (h 28), .ref (h 29), .ref (h 30), .ref (h 31), .int 0, .int 0, .ref (h 32), .ref (h 33), .ref (h 34), .ref (h 35), .ref (h 36), .ref (h 37)])), ((h 0), .inl (cy 1, 1720, .inl (fun _ => 0))), ((h 2), .inl (cy 0, 2, .inl (fun _ => 0))), ((h 3), .inl (cy 0, 2, .inl (fun _ => 0))), ((h 4), .inl (cy 0, 2, .inl (fun _ => 0))), ((h 5), .inl (cy 0, 2, .inl (f 0))), ((h 12), .inl (cy 2, 2, .inl (f 1))), ((h 7), .inl (cy 0, 1200, .inl (fun _ => 0))), ((h 8), .inl (cy 0, 1200, .inl (fun _ => 0))), ((h 20), .inl (cy 2, 8, .inl (fun _ => 0))), ((h 21), .inl (cy 0, 8, .inl (fun _ => 0))), ((h 32), .inl (cy 0, 3, .inl f_4)), ((h 33), .inl (cy 0, 120, .inl (fun _ => 0))), ((h 34), .inl (cy 0, 120, .inl (fun _ => 0))), ((h 35), .inl (cy 0, 24, .inl (fun _ => 0))), ((h 36), .inl (cy 2, 24, .inl (fun _ => 0))), ((h 37), .inl (cy 2, 3, .inl f_5))] H := hP
  replace hD : va_D A [(mo, .inr (12, [.ref (h 0), .ref (h 1), .int 0, .int 0, .int 0, .int (-1), .int 0, .int 0, .int 0, .int 0, .long 0, .ref (h 2), .ref (h 3), .ref (h 4), .ref (h 5), .ref (h 6), .ref (h 7), .ref (h 8), .ref (h 9), .ref (h 10), .ref (h 11), .ref (h 12), .ref (h 13), .ref (h 14), .ref (h 15), .ref (h 16), .ref (h 17), .ref (h 18), .ref (h 19), .int 0, .int 0, .int 0, .int 0, .int 0, .int 0, .ref (h 20), .ref (h 21), .int 0, .ref (h 22), .ref (h 23), .ref (h 24), .ref (h 25), .ref (h 26), .int 0, .int 0, .ref (h 27), .ref (h 28), .ref (h 29), .ref (h 30), .ref (h 31), .int 0, .int 0, .ref (h 32), .ref (h 33), .ref (h 34), .ref (h 35), .ref (h 36), .ref (h 37)])), ((h 0), .inl (cy 1, 1720, .inl (fun _ => 0))), ((h 2), .inl (cy 0, 2, .inl (fun _ => 0))), ((h 3), .inl (cy 0, 2, .inl (fun _ => 0))), ((h 4), .inl (cy 0, 2, .inl (fun _ => 0))), ((h 5), .inl (cy 0, 2, .inl (f 0))), ((h 12), .inl (cy 2, 2, .inl (f 1))), ((h 7), .inl (cy 0, 1200, .inl (fun _ => 0))), ((h 8), .inl (cy 0, 1200, .inl (fun _ => 0))), ((h 20), .inl (cy 2, 8, .inl (fun _ => 0))), ((h 21), .inl (cy 0, 8, .inl (fun _ => 0))), ((h 32), .inl (cy 0, 3, .inl f_4)), ((h 33), .inl (cy 0, 120, .inl (fun _ => 0))), ((h 34), .inl (cy 0, 120, .inl (fun _ => 0))), ((h 35), .inl (cy 0, 24, .inl (fun _ => 0))), ((h 36), .inl (cy 2, 24, .inl (fun _ => 0))), ((h 37), .inl (cy 2, 3, .inl f_5))] := hD
  refine lv_iinc (v := 23) (lv' := [(2, .int 23), (0, .ref mo), (1, .int 0)]) hx hb dX12_image_81 hl (k := 0) rfl (by decide) (by decide) rfl ?_
  clear hl
  try clear ls
  intro ls hl
  refine lv_goto (tgt := 33) hx hb dX12_image_84 (by decide) ?_
  refine lv_iload_n hx hb dX12_image_33 rfl (lv_at hl 0 rfl) ?_
  refine lv_bipush (v := 40) hx hb dX12_image_34 (by decide) ?_
  refine lv_icmp_ge (tgt := 87) hx hb dX12_image_36 (by decide) (fun c9 => absurd c9 (by decide)) (fun _ => ?_)
  refine lv_aload_n hx hb dX12_image_39 rfl (lv_at hl 1 rfl) ?_
  refine va_get (ci := 12) (v := .ref (h 33)) (C := RX12) (T := TX12) (N := 58) hx hb ht iX12 hown hK hP 0 rfl rfl 53 (by decide) (ht _ k_305) (fun _ h9 => h9) rfl dX12_image_40 ?_
  refine lv_bipush (v := 40) hx hb dX12_image_43 (by decide) ?_
  refine lv_iload_n hx hb dX12_image_45 rfl (lv_at hl 2 rfl) ?_
  refine lv_imul hx hb dX12_image_46 ?_
  refine ow_top 0 (by decide +kernel) ?_
  refine lv_iload_n hx hb dX12_image_47 rfl (lv_at hl 0 rfl) ?_
  refine lv_iadd hx hb dX12_image_48 ?_
  refine ow_top 23 (by decide +kernel) ?_
  refine lv_aload_n hx hb dX12_image_49 rfl (lv_at hl 1 rfl) ?_
  refine va_get (ci := 12) (v := .ref (h 7)) (C := RX12) (T := TX12) (N := 58) hx hb ht iX12 hown hK hP 0 rfl rfl 16 (by decide) (ht _ k_280) (fun _ h9 => h9) rfl dX12_image_50 ?_
  refine lv_sipush (v := 1120) hx hb dX12_image_53 (by decide) ?_
  refine lv_iload_n hx hb dX12_image_56 rfl (lv_at hl 0 rfl) ?_
  refine lv_iadd hx hb dX12_image_57 ?_
  refine ow_top 1143 (by decide +kernel) ?_
  refine va_iald hx hb hK hP 7 0 rfl rfl (in_lit (by decide +kernel)) dX12_image_58 ?_
  refine ow_top 0 rfl ?_
  refine ow_iastS hx hb hK hP hD hS 12 rfl (in_lit (by decide +kernel)) dX12_image_59 ?_
  clear hP hD hS
  try clear H locs
  intro H locs hP hD hS
  replace hP : va_P G vwCl [(mo, .inr (12, [.ref (h 0), .ref (h 1), .int 0, .int 0, .int 0, .int (-1), .int 0, .int 0, .int 0, .int 0, .long 0, .ref (h 2), .ref (h 3), .ref (h 4), .ref (h 5), .ref (h 6), .ref (h 7), .ref (h 8), .ref (h 9), .ref (h 10), .ref (h 11), .ref (h 12), .ref (h 13), .ref (h 14), .ref (h 15), .ref (h 16), .ref (h 17), .ref (h 18), .ref (h 19), .int 0, .int 0, .int 0, .int 0, .int 0, .int 0, .ref (h 20), .ref (h 21), .int 0, .ref (h 22), .ref (h 23), .ref (h 24), .ref (h 25), .ref (h 26), .int 0, .int 0, .ref (h 27), .ref (h 28), .ref (h 29), .ref (h 30), .ref (h 31), .int 0, .int 0, .ref (h 32), .ref (h 33), .ref (h 34), .ref (h 35), .ref (h 36), .ref (h 37)])), ((h 0), .inl (cy 1, 1720, .inl (fun _ => 0))), ((h 2), .inl (cy 0, 2, .inl (fun _ => 0))), ((h 3), .inl (cy 0, 2, .inl (fun _ => 0))), ((h 4), .inl (cy 0, 2, .inl (fun _ => 0))), ((h 5), .inl (cy 0, 2, .inl (f 0))), ((h 12), .inl (cy 2, 2, .inl (f 1))), ((h 7), .inl (cy 0, 1200, .inl (fun _ => 0))), ((h 8), .inl (cy 0, 1200, .inl (fun _ => 0))), ((h 20), .inl (cy 2, 8, .inl (fun _ => 0))), ((h 21), .inl (cy 0, 8, .inl (fun _ => 0))), ((h 32), .inl (cy 0, 3, .inl f_4)), ((h 33), .inl (cy 0, 120, .inl (fun _ => 0))), ((h 34), .inl (cy 0, 120, .inl (fun _ => 0))), ((h 35), .inl (cy 0, 24, .inl (fun _ => 0))), ((h 36), .inl (cy 2, 24, .inl (fun _ => 0))), ((h 37), .inl (cy 2, 3, .inl f_5))] H := hP
  replace hD : va_D A [(mo, .inr (12, [.ref (h 0), .ref (h 1), .int 0, .int 0, .int 0, .int (-1), .int 0, .int 0, .int 0, .int 0, .long 0, .ref (h 2), .ref (h 3), .ref (h 4), .ref (h 5), .ref (h 6), .ref (h 7), .ref (h 8), .ref (h 9), .ref (h 10), .ref (h 11), .ref (h 12), .ref (h 13), .ref (h 14), .ref (h 15), .ref (h 16), .ref (h 17), .ref (h 18), .ref (h 19), .int 0, .int 0, .int 0, .int 0, .int 0, .int 0, .ref (h 20), .ref (h 21), .int 0, .ref (h 22), .ref (h 23), .ref (h 24), .ref (h 25), .ref (h 26), .int 0, .int 0, .ref (h 27), .ref (h 28), .ref (h 29), .ref (h 30), .ref (h 31), .int 0, .int 0, .ref (h 32), .ref (h 33), .ref (h 34), .ref (h 35), .ref (h 36), .ref (h 37)])), ((h 0), .inl (cy 1, 1720, .inl (fun _ => 0))), ((h 2), .inl (cy 0, 2, .inl (fun _ => 0))), ((h 3), .inl (cy 0, 2, .inl (fun _ => 0))), ((h 4), .inl (cy 0, 2, .inl (fun _ => 0))), ((h 5), .inl (cy 0, 2, .inl (f 0))), ((h 12), .inl (cy 2, 2, .inl (f 1))), ((h 7), .inl (cy 0, 1200, .inl (fun _ => 0))), ((h 8), .inl (cy 0, 1200, .inl (fun _ => 0))), ((h 20), .inl (cy 2, 8, .inl (fun _ => 0))), ((h 21), .inl (cy 0, 8, .inl (fun _ => 0))), ((h 32), .inl (cy 0, 3, .inl f_4)), ((h 33), .inl (cy 0, 120, .inl (fun _ => 0))), ((h 34), .inl (cy 0, 120, .inl (fun _ => 0))), ((h 35), .inl (cy 0, 24, .inl (fun _ => 0))), ((h 36), .inl (cy 2, 24, .inl (fun _ => 0))), ((h 37), .inl (cy 2, 3, .inl f_5))] := hD
  refine lv_aload_n hx hb dX12_image_60 rfl (lv_at hl 1 rfl) ?_
  refine va_get (ci := 12) (v := .ref (h 34)) (C := RX12) (T := TX12) (N := 58) hx hb ht iX12 hown hK hP 0 rfl rfl 54 (by decide) (ht _ k_306) (fun _ h9 => h9) rfl dX12_image_61 ?_
  refine lv_bipush (v := 40) hx hb dX12_image_64 (by decide) ?_
  refine lv_iload_n hx hb dX12_image_66 rfl (lv_at hl 2 rfl) ?_
  refine lv_imul hx hb dX12_image_67 ?_
  refine ow_top 0 (by decide +kernel) ?_
  refine lv_iload_n hx hb dX12_image_68 rfl (lv_at hl 0 rfl) ?_
  refine lv_iadd hx hb dX12_image_69 ?_
  refine ow_top 23 (by decide +kernel) ?_
  refine lv_aload_n hx hb dX12_image_70 rfl (lv_at hl 1 rfl) ?_
  refine va_get (ci := 12) (v := .ref (h 8)) (C := RX12) (T := TX12) (N := 58) hx hb ht iX12 hown hK hP 0 rfl rfl 17 (by decide) (ht _ k_281) (fun _ h9 => h9) rfl dX12_image_71 ?_
  refine lv_sipush (v := 1120) hx hb dX12_image_74 (by decide) ?_
  refine lv_iload_n hx hb dX12_image_77 rfl (lv_at hl 0 rfl) ?_
  refine lv_iadd hx hb dX12_image_78 ?_
  refine ow_top 1143 (by decide +kernel) ?_
  refine va_iald hx hb hK hP 8 0 rfl rfl (in_lit (by decide +kernel)) dX12_image_79 ?_
  refine ow_top 0 rfl ?_
  refine ow_iastS hx hb hK hP hD hS 13 rfl (in_lit (by decide +kernel)) dX12_image_80 ?_
  clear hP hD hS
  try clear H locs
  intro H locs hP hD hS
  replace hP : va_P G vwCl [(mo, .inr (12, [.ref (h 0), .ref (h 1), .int 0, .int 0, .int 0, .int (-1), .int 0, .int 0, .int 0, .int 0, .long 0, .ref (h 2), .ref (h 3), .ref (h 4), .ref (h 5), .ref (h 6), .ref (h 7), .ref (h 8), .ref (h 9), .ref (h 10), .ref (h 11), .ref (h 12), .ref (h 13), .ref (h 14), .ref (h 15), .ref (h 16), .ref (h 17), .ref (h 18), .ref (h 19), .int 0, .int 0, .int 0, .int 0, .int 0, .int 0, .ref (h 20), .ref (h 21), .int 0, .ref (h 22), .ref (h 23), .ref (h 24), .ref (h 25), .ref (h 26), .int 0, .int 0, .ref (h 27), .ref (h 28), .ref (h 29), .ref (h 30), .ref (h 31), .int 0, .int 0, .ref (h 32), .ref (h 33), .ref (h 34), .ref (h 35), .ref (h 36), .ref (h 37)])), ((h 0), .inl (cy 1, 1720, .inl (fun _ => 0))), ((h 2), .inl (cy 0, 2, .inl (fun _ => 0))), ((h 3), .inl (cy 0, 2, .inl (fun _ => 0))), ((h 4), .inl (cy 0, 2, .inl (fun _ => 0))), ((h 5), .inl (cy 0, 2, .inl (f 0))), ((h 12), .inl (cy 2, 2, .inl (f 1))), ((h 7), .inl (cy 0, 1200, .inl (fun _ => 0))), ((h 8), .inl (cy 0, 1200, .inl (fun _ => 0))), ((h 20), .inl (cy 2, 8, .inl (fun _ => 0))), ((h 21), .inl (cy 0, 8, .inl (fun _ => 0))), ((h 32), .inl (cy 0, 3, .inl f_4)), ((h 33), .inl (cy 0, 120, .inl (fun _ => 0))), ((h 34), .inl (cy 0, 120, .inl (fun _ => 0))), ((h 35), .inl (cy 0, 24, .inl (fun _ => 0))), ((h 36), .inl (cy 2, 24, .inl (fun _ => 0))), ((h 37), .inl (cy 2, 3, .inl f_5))] H := hP
  replace hD : va_D A [(mo, .inr (12, [.ref (h 0), .ref (h 1), .int 0, .int 0, .int 0, .int (-1), .int 0, .int 0, .int 0, .int 0, .long 0, .ref (h 2), .ref (h 3), .ref (h 4), .ref (h 5), .ref (h 6), .ref (h 7), .ref (h 8), .ref (h 9), .ref (h 10), .ref (h 11), .ref (h 12), .ref (h 13), .ref (h 14), .ref (h 15), .ref (h 16), .ref (h 17), .ref (h 18), .ref (h 19), .int 0, .int 0, .int 0, .int 0, .int 0, .int 0, .ref (h 20), .ref (h 21), .int 0, .ref (h 22), .ref (h 23), .ref (h 24), .ref (h 25), .ref (h 26), .int 0, .int 0, .ref (h 27), .ref (h 28), .ref (h 29), .ref (h 30), .ref (h 31), .int 0, .int 0, .ref (h 32), .ref (h 33), .ref (h 34), .ref (h 35), .ref (h 36), .ref (h 37)])), ((h 0), .inl (cy 1, 1720, .inl (fun _ => 0))), ((h 2), .inl (cy 0, 2, .inl (fun _ => 0))), ((h 3), .inl (cy 0, 2, .inl (fun _ => 0))), ((h 4), .inl (cy 0, 2, .inl (fun _ => 0))), ((h 5), .inl (cy 0, 2, .inl (f 0))), ((h 12), .inl (cy 2, 2, .inl (f 1))), ((h 7), .inl (cy 0, 1200, .inl (fun _ => 0))), ((h 8), .inl (cy 0, 1200, .inl (fun _ => 0))), ((h 20), .inl (cy 2, 8, .inl (fun _ => 0))), ((h 21), .inl (cy 0, 8, .inl (fun _ => 0))), ((h 32), .inl (cy 0, 3, .inl f_4)), ((h 33), .inl (cy 0, 120, .inl (fun _ => 0))), ((h 34), .inl (cy 0, 120, .inl (fun _ => 0))), ((h 35), .inl (cy 0, 24, .inl (fun _ => 0))), ((h 36), .inl (cy 2, 24, .inl (fun _ => 0))), ((h 37), .inl (cy 2, 3, .inl f_5))] := hD
  refine lv_iinc (v := 24) (lv' := [(2, .int 24), (0, .ref mo), (1, .int 0)]) hx hb dX12_image_81 hl (k := 0) rfl (by decide) (by decide) rfl ?_
  clear hl
  try clear ls
  intro ls hl
  refine lv_goto (tgt := 33) hx hb dX12_image_84 (by decide) ?_
  refine lv_iload_n hx hb dX12_image_33 rfl (lv_at hl 0 rfl) ?_
  refine lv_bipush (v := 40) hx hb dX12_image_34 (by decide) ?_
  refine lv_icmp_ge (tgt := 87) hx hb dX12_image_36 (by decide) (fun c9 => absurd c9 (by decide)) (fun _ => ?_)
  refine lv_aload_n hx hb dX12_image_39 rfl (lv_at hl 1 rfl) ?_
  refine va_get (ci := 12) (v := .ref (h 33)) (C := RX12) (T := TX12) (N := 58) hx hb ht iX12 hown hK hP 0 rfl rfl 53 (by decide) (ht _ k_305) (fun _ h9 => h9) rfl dX12_image_40 ?_
  refine lv_bipush (v := 40) hx hb dX12_image_43 (by decide) ?_
  refine lv_iload_n hx hb dX12_image_45 rfl (lv_at hl 2 rfl) ?_
  refine lv_imul hx hb dX12_image_46 ?_
  refine ow_top 0 (by decide +kernel) ?_
  refine lv_iload_n hx hb dX12_image_47 rfl (lv_at hl 0 rfl) ?_
  refine lv_iadd hx hb dX12_image_48 ?_
  refine ow_top 24 (by decide +kernel) ?_
  refine lv_aload_n hx hb dX12_image_49 rfl (lv_at hl 1 rfl) ?_
  refine va_get (ci := 12) (v := .ref (h 7)) (C := RX12) (T := TX12) (N := 58) hx hb ht iX12 hown hK hP 0 rfl rfl 16 (by decide) (ht _ k_280) (fun _ h9 => h9) rfl dX12_image_50 ?_
  refine lv_sipush (v := 1120) hx hb dX12_image_53 (by decide) ?_
  refine lv_iload_n hx hb dX12_image_56 rfl (lv_at hl 0 rfl) ?_
  refine lv_iadd hx hb dX12_image_57 ?_
  refine ow_top 1144 (by decide +kernel) ?_
  refine va_iald hx hb hK hP 7 0 rfl rfl (in_lit (by decide +kernel)) dX12_image_58 ?_
  refine ow_top 0 rfl ?_
  refine ow_iastS hx hb hK hP hD hS 12 rfl (in_lit (by decide +kernel)) dX12_image_59 ?_
  clear hP hD hS
  try clear H locs
  intro H locs hP hD hS
  replace hP : va_P G vwCl [(mo, .inr (12, [.ref (h 0), .ref (h 1), .int 0, .int 0, .int 0, .int (-1), .int 0, .int 0, .int 0, .int 0, .long 0, .ref (h 2), .ref (h 3), .ref (h 4), .ref (h 5), .ref (h 6), .ref (h 7), .ref (h 8), .ref (h 9), .ref (h 10), .ref (h 11), .ref (h 12), .ref (h 13), .ref (h 14), .ref (h 15), .ref (h 16), .ref (h 17), .ref (h 18), .ref (h 19), .int 0, .int 0, .int 0, .int 0, .int 0, .int 0, .ref (h 20), .ref (h 21), .int 0, .ref (h 22), .ref (h 23), .ref (h 24), .ref (h 25), .ref (h 26), .int 0, .int 0, .ref (h 27), .ref (h 28), .ref (h 29), .ref (h 30), .ref (h 31), .int 0, .int 0, .ref (h 32), .ref (h 33), .ref (h 34), .ref (h 35), .ref (h 36), .ref (h 37)])), ((h 0), .inl (cy 1, 1720, .inl (fun _ => 0))), ((h 2), .inl (cy 0, 2, .inl (fun _ => 0))), ((h 3), .inl (cy 0, 2, .inl (fun _ => 0))), ((h 4), .inl (cy 0, 2, .inl (fun _ => 0))), ((h 5), .inl (cy 0, 2, .inl (f 0))), ((h 12), .inl (cy 2, 2, .inl (f 1))), ((h 7), .inl (cy 0, 1200, .inl (fun _ => 0))), ((h 8), .inl (cy 0, 1200, .inl (fun _ => 0))), ((h 20), .inl (cy 2, 8, .inl (fun _ => 0))), ((h 21), .inl (cy 0, 8, .inl (fun _ => 0))), ((h 32), .inl (cy 0, 3, .inl f_4)), ((h 33), .inl (cy 0, 120, .inl (fun _ => 0))), ((h 34), .inl (cy 0, 120, .inl (fun _ => 0))), ((h 35), .inl (cy 0, 24, .inl (fun _ => 0))), ((h 36), .inl (cy 2, 24, .inl (fun _ => 0))), ((h 37), .inl (cy 2, 3, .inl f_5))] H := hP
  replace hD : va_D A [(mo, .inr (12, [.ref (h 0), .ref (h 1), .int 0, .int 0, .int 0, .int (-1), .int 0, .int 0, .int 0, .int 0, .long 0, .ref (h 2), .ref (h 3), .ref (h 4), .ref (h 5), .ref (h 6), .ref (h 7), .ref (h 8), .ref (h 9), .ref (h 10), .ref (h 11), .ref (h 12), .ref (h 13), .ref (h 14), .ref (h 15), .ref (h 16), .ref (h 17), .ref (h 18), .ref (h 19), .int 0, .int 0, .int 0, .int 0, .int 0, .int 0, .ref (h 20), .ref (h 21), .int 0, .ref (h 22), .ref (h 23), .ref (h 24), .ref (h 25), .ref (h 26), .int 0, .int 0, .ref (h 27), .ref (h 28), .ref (h 29), .ref (h 30), .ref (h 31), .int 0, .int 0, .ref (h 32), .ref (h 33), .ref (h 34), .ref (h 35), .ref (h 36), .ref (h 37)])), ((h 0), .inl (cy 1, 1720, .inl (fun _ => 0))), ((h 2), .inl (cy 0, 2, .inl (fun _ => 0))), ((h 3), .inl (cy 0, 2, .inl (fun _ => 0))), ((h 4), .inl (cy 0, 2, .inl (fun _ => 0))), ((h 5), .inl (cy 0, 2, .inl (f 0))), ((h 12), .inl (cy 2, 2, .inl (f 1))), ((h 7), .inl (cy 0, 1200, .inl (fun _ => 0))), ((h 8), .inl (cy 0, 1200, .inl (fun _ => 0))), ((h 20), .inl (cy 2, 8, .inl (fun _ => 0))), ((h 21), .inl (cy 0, 8, .inl (fun _ => 0))), ((h 32), .inl (cy 0, 3, .inl f_4)), ((h 33), .inl (cy 0, 120, .inl (fun _ => 0))), ((h 34), .inl (cy 0, 120, .inl (fun _ => 0))), ((h 35), .inl (cy 0, 24, .inl (fun _ => 0))), ((h 36), .inl (cy 2, 24, .inl (fun _ => 0))), ((h 37), .inl (cy 2, 3, .inl f_5))] := hD
  refine lv_aload_n hx hb dX12_image_60 rfl (lv_at hl 1 rfl) ?_
  refine va_get (ci := 12) (v := .ref (h 34)) (C := RX12) (T := TX12) (N := 58) hx hb ht iX12 hown hK hP 0 rfl rfl 54 (by decide) (ht _ k_306) (fun _ h9 => h9) rfl dX12_image_61 ?_
  refine lv_bipush (v := 40) hx hb dX12_image_64 (by decide) ?_
  refine lv_iload_n hx hb dX12_image_66 rfl (lv_at hl 2 rfl) ?_
  refine lv_imul hx hb dX12_image_67 ?_
  refine ow_top 0 (by decide +kernel) ?_
  refine lv_iload_n hx hb dX12_image_68 rfl (lv_at hl 0 rfl) ?_
  refine lv_iadd hx hb dX12_image_69 ?_
  refine ow_top 24 (by decide +kernel) ?_
  refine lv_aload_n hx hb dX12_image_70 rfl (lv_at hl 1 rfl) ?_
  refine va_get (ci := 12) (v := .ref (h 8)) (C := RX12) (T := TX12) (N := 58) hx hb ht iX12 hown hK hP 0 rfl rfl 17 (by decide) (ht _ k_281) (fun _ h9 => h9) rfl dX12_image_71 ?_
  refine lv_sipush (v := 1120) hx hb dX12_image_74 (by decide) ?_
  refine lv_iload_n hx hb dX12_image_77 rfl (lv_at hl 0 rfl) ?_
  refine lv_iadd hx hb dX12_image_78 ?_
  refine ow_top 1144 (by decide +kernel) ?_
  refine va_iald hx hb hK hP 8 0 rfl rfl (in_lit (by decide +kernel)) dX12_image_79 ?_
  refine ow_top 0 rfl ?_
  refine ow_iastS hx hb hK hP hD hS 13 rfl (in_lit (by decide +kernel)) dX12_image_80 ?_
  clear hP hD hS
  try clear H locs
  intro H locs hP hD hS
  replace hP : va_P G vwCl [(mo, .inr (12, [.ref (h 0), .ref (h 1), .int 0, .int 0, .int 0, .int (-1), .int 0, .int 0, .int 0, .int 0, .long 0, .ref (h 2), .ref (h 3), .ref (h 4), .ref (h 5), .ref (h 6), .ref (h 7), .ref (h 8), .ref (h 9), .ref (h 10), .ref (h 11), .ref (h 12), .ref (h 13), .ref (h 14), .ref (h 15), .ref (h 16), .ref (h 17), .ref (h 18), .ref (h 19), .int 0, .int 0, .int 0, .int 0, .int 0, .int 0, .ref (h 20), .ref (h 21), .int 0, .ref (h 22), .ref (h 23), .ref (h 24), .ref (h 25), .ref (h 26), .int 0, .int 0, .ref (h 27), .ref (h 28), .ref (h 29), .ref (h 30), .ref (h 31), .int 0, .int 0, .ref (h 32), .ref (h 33), .ref (h 34), .ref (h 35), .ref (h 36), .ref (h 37)])), ((h 0), .inl (cy 1, 1720, .inl (fun _ => 0))), ((h 2), .inl (cy 0, 2, .inl (fun _ => 0))), ((h 3), .inl (cy 0, 2, .inl (fun _ => 0))), ((h 4), .inl (cy 0, 2, .inl (fun _ => 0))), ((h 5), .inl (cy 0, 2, .inl (f 0))), ((h 12), .inl (cy 2, 2, .inl (f 1))), ((h 7), .inl (cy 0, 1200, .inl (fun _ => 0))), ((h 8), .inl (cy 0, 1200, .inl (fun _ => 0))), ((h 20), .inl (cy 2, 8, .inl (fun _ => 0))), ((h 21), .inl (cy 0, 8, .inl (fun _ => 0))), ((h 32), .inl (cy 0, 3, .inl f_4)), ((h 33), .inl (cy 0, 120, .inl (fun _ => 0))), ((h 34), .inl (cy 0, 120, .inl (fun _ => 0))), ((h 35), .inl (cy 0, 24, .inl (fun _ => 0))), ((h 36), .inl (cy 2, 24, .inl (fun _ => 0))), ((h 37), .inl (cy 2, 3, .inl f_5))] H := hP
  replace hD : va_D A [(mo, .inr (12, [.ref (h 0), .ref (h 1), .int 0, .int 0, .int 0, .int (-1), .int 0, .int 0, .int 0, .int 0, .long 0, .ref (h 2), .ref (h 3), .ref (h 4), .ref (h 5), .ref (h 6), .ref (h 7), .ref (h 8), .ref (h 9), .ref (h 10), .ref (h 11), .ref (h 12), .ref (h 13), .ref (h 14), .ref (h 15), .ref (h 16), .ref (h 17), .ref (h 18), .ref (h 19), .int 0, .int 0, .int 0, .int 0, .int 0, .int 0, .ref (h 20), .ref (h 21), .int 0, .ref (h 22), .ref (h 23), .ref (h 24), .ref (h 25), .ref (h 26), .int 0, .int 0, .ref (h 27), .ref (h 28), .ref (h 29), .ref (h 30), .ref (h 31), .int 0, .int 0, .ref (h 32), .ref (h 33), .ref (h 34), .ref (h 35), .ref (h 36), .ref (h 37)])), ((h 0), .inl (cy 1, 1720, .inl (fun _ => 0))), ((h 2), .inl (cy 0, 2, .inl (fun _ => 0))), ((h 3), .inl (cy 0, 2, .inl (fun _ => 0))), ((h 4), .inl (cy 0, 2, .inl (fun _ => 0))), ((h 5), .inl (cy 0, 2, .inl (f 0))), ((h 12), .inl (cy 2, 2, .inl (f 1))), ((h 7), .inl (cy 0, 1200, .inl (fun _ => 0))), ((h 8), .inl (cy 0, 1200, .inl (fun _ => 0))), ((h 20), .inl (cy 2, 8, .inl (fun _ => 0))), ((h 21), .inl (cy 0, 8, .inl (fun _ => 0))), ((h 32), .inl (cy 0, 3, .inl f_4)), ((h 33), .inl (cy 0, 120, .inl (fun _ => 0))), ((h 34), .inl (cy 0, 120, .inl (fun _ => 0))), ((h 35), .inl (cy 0, 24, .inl (fun _ => 0))), ((h 36), .inl (cy 2, 24, .inl (fun _ => 0))), ((h 37), .inl (cy 2, 3, .inl f_5))] := hD
  refine lv_iinc (v := 25) (lv' := [(2, .int 25), (0, .ref mo), (1, .int 0)]) hx hb dX12_image_81 hl (k := 0) rfl (by decide) (by decide) rfl ?_
  clear hl
  try clear ls
  intro ls hl
  refine lv_goto (tgt := 33) hx hb dX12_image_84 (by decide) ?_
  refine lv_iload_n hx hb dX12_image_33 rfl (lv_at hl 0 rfl) ?_
  refine lv_bipush (v := 40) hx hb dX12_image_34 (by decide) ?_
  refine lv_icmp_ge (tgt := 87) hx hb dX12_image_36 (by decide) (fun c9 => absurd c9 (by decide)) (fun _ => ?_)
  refine lv_aload_n hx hb dX12_image_39 rfl (lv_at hl 1 rfl) ?_
  refine va_get (ci := 12) (v := .ref (h 33)) (C := RX12) (T := TX12) (N := 58) hx hb ht iX12 hown hK hP 0 rfl rfl 53 (by decide) (ht _ k_305) (fun _ h9 => h9) rfl dX12_image_40 ?_
  refine lv_bipush (v := 40) hx hb dX12_image_43 (by decide) ?_
  refine lv_iload_n hx hb dX12_image_45 rfl (lv_at hl 2 rfl) ?_
  refine lv_imul hx hb dX12_image_46 ?_
  refine ow_top 0 (by decide +kernel) ?_
  refine lv_iload_n hx hb dX12_image_47 rfl (lv_at hl 0 rfl) ?_
  refine lv_iadd hx hb dX12_image_48 ?_
  refine ow_top 25 (by decide +kernel) ?_
  refine lv_aload_n hx hb dX12_image_49 rfl (lv_at hl 1 rfl) ?_
  refine va_get (ci := 12) (v := .ref (h 7)) (C := RX12) (T := TX12) (N := 58) hx hb ht iX12 hown hK hP 0 rfl rfl 16 (by decide) (ht _ k_280) (fun _ h9 => h9) rfl dX12_image_50 ?_
  refine lv_sipush (v := 1120) hx hb dX12_image_53 (by decide) ?_
  refine lv_iload_n hx hb dX12_image_56 rfl (lv_at hl 0 rfl) ?_
  refine lv_iadd hx hb dX12_image_57 ?_
  refine ow_top 1145 (by decide +kernel) ?_
  refine va_iald hx hb hK hP 7 0 rfl rfl (in_lit (by decide +kernel)) dX12_image_58 ?_
  refine ow_top 0 rfl ?_
  refine ow_iastS hx hb hK hP hD hS 12 rfl (in_lit (by decide +kernel)) dX12_image_59 ?_
  clear hP hD hS
  try clear H locs
  intro H locs hP hD hS
  replace hP : va_P G vwCl [(mo, .inr (12, [.ref (h 0), .ref (h 1), .int 0, .int 0, .int 0, .int (-1), .int 0, .int 0, .int 0, .int 0, .long 0, .ref (h 2), .ref (h 3), .ref (h 4), .ref (h 5), .ref (h 6), .ref (h 7), .ref (h 8), .ref (h 9), .ref (h 10), .ref (h 11), .ref (h 12), .ref (h 13), .ref (h 14), .ref (h 15), .ref (h 16), .ref (h 17), .ref (h 18), .ref (h 19), .int 0, .int 0, .int 0, .int 0, .int 0, .int 0, .ref (h 20), .ref (h 21), .int 0, .ref (h 22), .ref (h 23), .ref (h 24), .ref (h 25), .ref (h 26), .int 0, .int 0, .ref (h 27), .ref (h 28), .ref (h 29), .ref (h 30), .ref (h 31), .int 0, .int 0, .ref (h 32), .ref (h 33), .ref (h 34), .ref (h 35), .ref (h 36), .ref (h 37)])), ((h 0), .inl (cy 1, 1720, .inl (fun _ => 0))), ((h 2), .inl (cy 0, 2, .inl (fun _ => 0))), ((h 3), .inl (cy 0, 2, .inl (fun _ => 0))), ((h 4), .inl (cy 0, 2, .inl (fun _ => 0))), ((h 5), .inl (cy 0, 2, .inl (f 0))), ((h 12), .inl (cy 2, 2, .inl (f 1))), ((h 7), .inl (cy 0, 1200, .inl (fun _ => 0))), ((h 8), .inl (cy 0, 1200, .inl (fun _ => 0))), ((h 20), .inl (cy 2, 8, .inl (fun _ => 0))), ((h 21), .inl (cy 0, 8, .inl (fun _ => 0))), ((h 32), .inl (cy 0, 3, .inl f_4)), ((h 33), .inl (cy 0, 120, .inl (fun _ => 0))), ((h 34), .inl (cy 0, 120, .inl (fun _ => 0))), ((h 35), .inl (cy 0, 24, .inl (fun _ => 0))), ((h 36), .inl (cy 2, 24, .inl (fun _ => 0))), ((h 37), .inl (cy 2, 3, .inl f_5))] H := hP
  replace hD : va_D A [(mo, .inr (12, [.ref (h 0), .ref (h 1), .int 0, .int 0, .int 0, .int (-1), .int 0, .int 0, .int 0, .int 0, .long 0, .ref (h 2), .ref (h 3), .ref (h 4), .ref (h 5), .ref (h 6), .ref (h 7), .ref (h 8), .ref (h 9), .ref (h 10), .ref (h 11), .ref (h 12), .ref (h 13), .ref (h 14), .ref (h 15), .ref (h 16), .ref (h 17), .ref (h 18), .ref (h 19), .int 0, .int 0, .int 0, .int 0, .int 0, .int 0, .ref (h 20), .ref (h 21), .int 0, .ref (h 22), .ref (h 23), .ref (h 24), .ref (h 25), .ref (h 26), .int 0, .int 0, .ref (h 27), .ref (h 28), .ref (h 29), .ref (h 30), .ref (h 31), .int 0, .int 0, .ref (h 32), .ref (h 33), .ref (h 34), .ref (h 35), .ref (h 36), .ref (h 37)])), ((h 0), .inl (cy 1, 1720, .inl (fun _ => 0))), ((h 2), .inl (cy 0, 2, .inl (fun _ => 0))), ((h 3), .inl (cy 0, 2, .inl (fun _ => 0))), ((h 4), .inl (cy 0, 2, .inl (fun _ => 0))), ((h 5), .inl (cy 0, 2, .inl (f 0))), ((h 12), .inl (cy 2, 2, .inl (f 1))), ((h 7), .inl (cy 0, 1200, .inl (fun _ => 0))), ((h 8), .inl (cy 0, 1200, .inl (fun _ => 0))), ((h 20), .inl (cy 2, 8, .inl (fun _ => 0))), ((h 21), .inl (cy 0, 8, .inl (fun _ => 0))), ((h 32), .inl (cy 0, 3, .inl f_4)), ((h 33), .inl (cy 0, 120, .inl (fun _ => 0))), ((h 34), .inl (cy 0, 120, .inl (fun _ => 0))), ((h 35), .inl (cy 0, 24, .inl (fun _ => 0))), ((h 36), .inl (cy 2, 24, .inl (fun _ => 0))), ((h 37), .inl (cy 2, 3, .inl f_5))] := hD
  refine lv_aload_n hx hb dX12_image_60 rfl (lv_at hl 1 rfl) ?_
  refine va_get (ci := 12) (v := .ref (h 34)) (C := RX12) (T := TX12) (N := 58) hx hb ht iX12 hown hK hP 0 rfl rfl 54 (by decide) (ht _ k_306) (fun _ h9 => h9) rfl dX12_image_61 ?_
  refine lv_bipush (v := 40) hx hb dX12_image_64 (by decide) ?_
  refine lv_iload_n hx hb dX12_image_66 rfl (lv_at hl 2 rfl) ?_
  refine lv_imul hx hb dX12_image_67 ?_
  refine ow_top 0 (by decide +kernel) ?_
  refine lv_iload_n hx hb dX12_image_68 rfl (lv_at hl 0 rfl) ?_
  refine lv_iadd hx hb dX12_image_69 ?_
  refine ow_top 25 (by decide +kernel) ?_
  refine lv_aload_n hx hb dX12_image_70 rfl (lv_at hl 1 rfl) ?_
  refine va_get (ci := 12) (v := .ref (h 8)) (C := RX12) (T := TX12) (N := 58) hx hb ht iX12 hown hK hP 0 rfl rfl 17 (by decide) (ht _ k_281) (fun _ h9 => h9) rfl dX12_image_71 ?_
  refine lv_sipush (v := 1120) hx hb dX12_image_74 (by decide) ?_
  refine lv_iload_n hx hb dX12_image_77 rfl (lv_at hl 0 rfl) ?_
  refine lv_iadd hx hb dX12_image_78 ?_
  refine ow_top 1145 (by decide +kernel) ?_
  refine va_iald hx hb hK hP 8 0 rfl rfl (in_lit (by decide +kernel)) dX12_image_79 ?_
  refine ow_top 0 rfl ?_
  refine ow_iastS hx hb hK hP hD hS 13 rfl (in_lit (by decide +kernel)) dX12_image_80 ?_
  clear hP hD hS
  try clear H locs
  intro H locs hP hD hS
  replace hP : va_P G vwCl [(mo, .inr (12, [.ref (h 0), .ref (h 1), .int 0, .int 0, .int 0, .int (-1), .int 0, .int 0, .int 0, .int 0, .long 0, .ref (h 2), .ref (h 3), .ref (h 4), .ref (h 5), .ref (h 6), .ref (h 7), .ref (h 8), .ref (h 9), .ref (h 10), .ref (h 11), .ref (h 12), .ref (h 13), .ref (h 14), .ref (h 15), .ref (h 16), .ref (h 17), .ref (h 18), .ref (h 19), .int 0, .int 0, .int 0, .int 0, .int 0, .int 0, .ref (h 20), .ref (h 21), .int 0, .ref (h 22), .ref (h 23), .ref (h 24), .ref (h 25), .ref (h 26), .int 0, .int 0, .ref (h 27), .ref (h 28), .ref (h 29), .ref (h 30), .ref (h 31), .int 0, .int 0, .ref (h 32), .ref (h 33), .ref (h 34), .ref (h 35), .ref (h 36), .ref (h 37)])), ((h 0), .inl (cy 1, 1720, .inl (fun _ => 0))), ((h 2), .inl (cy 0, 2, .inl (fun _ => 0))), ((h 3), .inl (cy 0, 2, .inl (fun _ => 0))), ((h 4), .inl (cy 0, 2, .inl (fun _ => 0))), ((h 5), .inl (cy 0, 2, .inl (f 0))), ((h 12), .inl (cy 2, 2, .inl (f 1))), ((h 7), .inl (cy 0, 1200, .inl (fun _ => 0))), ((h 8), .inl (cy 0, 1200, .inl (fun _ => 0))), ((h 20), .inl (cy 2, 8, .inl (fun _ => 0))), ((h 21), .inl (cy 0, 8, .inl (fun _ => 0))), ((h 32), .inl (cy 0, 3, .inl f_4)), ((h 33), .inl (cy 0, 120, .inl (fun _ => 0))), ((h 34), .inl (cy 0, 120, .inl (fun _ => 0))), ((h 35), .inl (cy 0, 24, .inl (fun _ => 0))), ((h 36), .inl (cy 2, 24, .inl (fun _ => 0))), ((h 37), .inl (cy 2, 3, .inl f_5))] H := hP
  replace hD : va_D A [(mo, .inr (12, [.ref (h 0), .ref (h 1), .int 0, .int 0, .int 0, .int (-1), .int 0, .int 0, .int 0, .int 0, .long 0, .ref (h 2), .ref (h 3), .ref (h 4), .ref (h 5), .ref (h 6), .ref (h 7), .ref (h 8), .ref (h 9), .ref (h 10), .ref (h 11), .ref (h 12), .ref (h 13), .ref (h 14), .ref (h 15), .ref (h 16), .ref (h 17), .ref (h 18), .ref (h 19), .int 0, .int 0, .int 0, .int 0, .int 0, .int 0, .ref (h 20), .ref (h 21), .int 0, .ref (h 22), .ref (h 23), .ref (h 24), .ref (h 25), .ref (h 26), .int 0, .int 0, .ref (h 27), .ref (h 28), .ref (h 29), .ref (h 30), .ref (h 31), .int 0, .int 0, .ref (h 32), .ref (h 33), .ref (h 34), .ref (h 35), .ref (h 36), .ref (h 37)])), ((h 0), .inl (cy 1, 1720, .inl (fun _ => 0))), ((h 2), .inl (cy 0, 2, .inl (fun _ => 0))), ((h 3), .inl (cy 0, 2, .inl (fun _ => 0))), ((h 4), .inl (cy 0, 2, .inl (fun _ => 0))), ((h 5), .inl (cy 0, 2, .inl (f 0))), ((h 12), .inl (cy 2, 2, .inl (f 1))), ((h 7), .inl (cy 0, 1200, .inl (fun _ => 0))), ((h 8), .inl (cy 0, 1200, .inl (fun _ => 0))), ((h 20), .inl (cy 2, 8, .inl (fun _ => 0))), ((h 21), .inl (cy 0, 8, .inl (fun _ => 0))), ((h 32), .inl (cy 0, 3, .inl f_4)), ((h 33), .inl (cy 0, 120, .inl (fun _ => 0))), ((h 34), .inl (cy 0, 120, .inl (fun _ => 0))), ((h 35), .inl (cy 0, 24, .inl (fun _ => 0))), ((h 36), .inl (cy 2, 24, .inl (fun _ => 0))), ((h 37), .inl (cy 2, 3, .inl f_5))] := hD
  refine lv_iinc (v := 26) (lv' := [(2, .int 26), (0, .ref mo), (1, .int 0)]) hx hb dX12_image_81 hl (k := 0) rfl (by decide) (by decide) rfl ?_
  clear hl
  try clear ls
  intro ls hl
  refine lv_goto (tgt := 33) hx hb dX12_image_84 (by decide) ?_
  refine lv_iload_n hx hb dX12_image_33 rfl (lv_at hl 0 rfl) ?_
  refine lv_bipush (v := 40) hx hb dX12_image_34 (by decide) ?_
  refine lv_icmp_ge (tgt := 87) hx hb dX12_image_36 (by decide) (fun c9 => absurd c9 (by decide)) (fun _ => ?_)
  refine lv_aload_n hx hb dX12_image_39 rfl (lv_at hl 1 rfl) ?_
  refine va_get (ci := 12) (v := .ref (h 33)) (C := RX12) (T := TX12) (N := 58) hx hb ht iX12 hown hK hP 0 rfl rfl 53 (by decide) (ht _ k_305) (fun _ h9 => h9) rfl dX12_image_40 ?_
  refine lv_bipush (v := 40) hx hb dX12_image_43 (by decide) ?_
  refine lv_iload_n hx hb dX12_image_45 rfl (lv_at hl 2 rfl) ?_
  refine lv_imul hx hb dX12_image_46 ?_
  refine ow_top 0 (by decide +kernel) ?_
  refine lv_iload_n hx hb dX12_image_47 rfl (lv_at hl 0 rfl) ?_
  refine lv_iadd hx hb dX12_image_48 ?_
  refine ow_top 26 (by decide +kernel) ?_
  refine lv_aload_n hx hb dX12_image_49 rfl (lv_at hl 1 rfl) ?_
  refine va_get (ci := 12) (v := .ref (h 7)) (C := RX12) (T := TX12) (N := 58) hx hb ht iX12 hown hK hP 0 rfl rfl 16 (by decide) (ht _ k_280) (fun _ h9 => h9) rfl dX12_image_50 ?_
  refine lv_sipush (v := 1120) hx hb dX12_image_53 (by decide) ?_
  refine lv_iload_n hx hb dX12_image_56 rfl (lv_at hl 0 rfl) ?_
  refine lv_iadd hx hb dX12_image_57 ?_
  refine ow_top 1146 (by decide +kernel) ?_
  refine va_iald hx hb hK hP 7 0 rfl rfl (in_lit (by decide +kernel)) dX12_image_58 ?_
  refine ow_top 0 rfl ?_
  refine ow_iastS hx hb hK hP hD hS 12 rfl (in_lit (by decide +kernel)) dX12_image_59 ?_
  clear hP hD hS
  try clear H locs
  intro H locs hP hD hS
  replace hP : va_P G vwCl [(mo, .inr (12, [.ref (h 0), .ref (h 1), .int 0, .int 0, .int 0, .int (-1), .int 0, .int 0, .int 0, .int 0, .long 0, .ref (h 2), .ref (h 3), .ref (h 4), .ref (h 5), .ref (h 6), .ref (h 7), .ref (h 8), .ref (h 9), .ref (h 10), .ref (h 11), .ref (h 12), .ref (h 13), .ref (h 14), .ref (h 15), .ref (h 16), .ref (h 17), .ref (h 18), .ref (h 19), .int 0, .int 0, .int 0, .int 0, .int 0, .int 0, .ref (h 20), .ref (h 21), .int 0, .ref (h 22), .ref (h 23), .ref (h 24), .ref (h 25), .ref (h 26), .int 0, .int 0, .ref (h 27), .ref (h 28), .ref (h 29), .ref (h 30), .ref (h 31), .int 0, .int 0, .ref (h 32), .ref (h 33), .ref (h 34), .ref (h 35), .ref (h 36), .ref (h 37)])), ((h 0), .inl (cy 1, 1720, .inl (fun _ => 0))), ((h 2), .inl (cy 0, 2, .inl (fun _ => 0))), ((h 3), .inl (cy 0, 2, .inl (fun _ => 0))), ((h 4), .inl (cy 0, 2, .inl (fun _ => 0))), ((h 5), .inl (cy 0, 2, .inl (f 0))), ((h 12), .inl (cy 2, 2, .inl (f 1))), ((h 7), .inl (cy 0, 1200, .inl (fun _ => 0))), ((h 8), .inl (cy 0, 1200, .inl (fun _ => 0))), ((h 20), .inl (cy 2, 8, .inl (fun _ => 0))), ((h 21), .inl (cy 0, 8, .inl (fun _ => 0))), ((h 32), .inl (cy 0, 3, .inl f_4)), ((h 33), .inl (cy 0, 120, .inl (fun _ => 0))), ((h 34), .inl (cy 0, 120, .inl (fun _ => 0))), ((h 35), .inl (cy 0, 24, .inl (fun _ => 0))), ((h 36), .inl (cy 2, 24, .inl (fun _ => 0))), ((h 37), .inl (cy 2, 3, .inl f_5))] H := hP
  replace hD : va_D A [(mo, .inr (12, [.ref (h 0), .ref (h 1), .int 0, .int 0, .int 0, .int (-1), .int 0, .int 0, .int 0, .int 0, .long 0, .ref (h 2), .ref (h 3), .ref (h 4), .ref (h 5), .ref (h 6), .ref (h 7), .ref (h 8), .ref (h 9), .ref (h 10), .ref (h 11), .ref (h 12), .ref (h 13), .ref (h 14), .ref (h 15), .ref (h 16), .ref (h 17), .ref (h 18), .ref (h 19), .int 0, .int 0, .int 0, .int 0, .int 0, .int 0, .ref (h 20), .ref (h 21), .int 0, .ref (h 22), .ref (h 23), .ref (h 24), .ref (h 25), .ref (h 26), .int 0, .int 0, .ref (h 27), .ref (h 28), .ref (h 29), .ref (h 30), .ref (h 31), .int 0, .int 0, .ref (h 32), .ref (h 33), .ref (h 34), .ref (h 35), .ref (h 36), .ref (h 37)])), ((h 0), .inl (cy 1, 1720, .inl (fun _ => 0))), ((h 2), .inl (cy 0, 2, .inl (fun _ => 0))), ((h 3), .inl (cy 0, 2, .inl (fun _ => 0))), ((h 4), .inl (cy 0, 2, .inl (fun _ => 0))), ((h 5), .inl (cy 0, 2, .inl (f 0))), ((h 12), .inl (cy 2, 2, .inl (f 1))), ((h 7), .inl (cy 0, 1200, .inl (fun _ => 0))), ((h 8), .inl (cy 0, 1200, .inl (fun _ => 0))), ((h 20), .inl (cy 2, 8, .inl (fun _ => 0))), ((h 21), .inl (cy 0, 8, .inl (fun _ => 0))), ((h 32), .inl (cy 0, 3, .inl f_4)), ((h 33), .inl (cy 0, 120, .inl (fun _ => 0))), ((h 34), .inl (cy 0, 120, .inl (fun _ => 0))), ((h 35), .inl (cy 0, 24, .inl (fun _ => 0))), ((h 36), .inl (cy 2, 24, .inl (fun _ => 0))), ((h 37), .inl (cy 2, 3, .inl f_5))] := hD
  refine lv_aload_n hx hb dX12_image_60 rfl (lv_at hl 1 rfl) ?_
  refine va_get (ci := 12) (v := .ref (h 34)) (C := RX12) (T := TX12) (N := 58) hx hb ht iX12 hown hK hP 0 rfl rfl 54 (by decide) (ht _ k_306) (fun _ h9 => h9) rfl dX12_image_61 ?_
  refine lv_bipush (v := 40) hx hb dX12_image_64 (by decide) ?_
  refine lv_iload_n hx hb dX12_image_66 rfl (lv_at hl 2 rfl) ?_
  refine lv_imul hx hb dX12_image_67 ?_
  refine ow_top 0 (by decide +kernel) ?_
  refine lv_iload_n hx hb dX12_image_68 rfl (lv_at hl 0 rfl) ?_
  refine lv_iadd hx hb dX12_image_69 ?_
  refine ow_top 26 (by decide +kernel) ?_
  refine lv_aload_n hx hb dX12_image_70 rfl (lv_at hl 1 rfl) ?_
  refine va_get (ci := 12) (v := .ref (h 8)) (C := RX12) (T := TX12) (N := 58) hx hb ht iX12 hown hK hP 0 rfl rfl 17 (by decide) (ht _ k_281) (fun _ h9 => h9) rfl dX12_image_71 ?_
  refine lv_sipush (v := 1120) hx hb dX12_image_74 (by decide) ?_
  refine lv_iload_n hx hb dX12_image_77 rfl (lv_at hl 0 rfl) ?_
  refine lv_iadd hx hb dX12_image_78 ?_
  refine ow_top 1146 (by decide +kernel) ?_
  refine va_iald hx hb hK hP 8 0 rfl rfl (in_lit (by decide +kernel)) dX12_image_79 ?_
  refine ow_top 0 rfl ?_
  refine ow_iastS hx hb hK hP hD hS 13 rfl (in_lit (by decide +kernel)) dX12_image_80 ?_
  clear hP hD hS
  try clear H locs
  intro H locs hP hD hS
  replace hP : va_P G vwCl [(mo, .inr (12, [.ref (h 0), .ref (h 1), .int 0, .int 0, .int 0, .int (-1), .int 0, .int 0, .int 0, .int 0, .long 0, .ref (h 2), .ref (h 3), .ref (h 4), .ref (h 5), .ref (h 6), .ref (h 7), .ref (h 8), .ref (h 9), .ref (h 10), .ref (h 11), .ref (h 12), .ref (h 13), .ref (h 14), .ref (h 15), .ref (h 16), .ref (h 17), .ref (h 18), .ref (h 19), .int 0, .int 0, .int 0, .int 0, .int 0, .int 0, .ref (h 20), .ref (h 21), .int 0, .ref (h 22), .ref (h 23), .ref (h 24), .ref (h 25), .ref (h 26), .int 0, .int 0, .ref (h 27), .ref (h 28), .ref (h 29), .ref (h 30), .ref (h 31), .int 0, .int 0, .ref (h 32), .ref (h 33), .ref (h 34), .ref (h 35), .ref (h 36), .ref (h 37)])), ((h 0), .inl (cy 1, 1720, .inl (fun _ => 0))), ((h 2), .inl (cy 0, 2, .inl (fun _ => 0))), ((h 3), .inl (cy 0, 2, .inl (fun _ => 0))), ((h 4), .inl (cy 0, 2, .inl (fun _ => 0))), ((h 5), .inl (cy 0, 2, .inl (f 0))), ((h 12), .inl (cy 2, 2, .inl (f 1))), ((h 7), .inl (cy 0, 1200, .inl (fun _ => 0))), ((h 8), .inl (cy 0, 1200, .inl (fun _ => 0))), ((h 20), .inl (cy 2, 8, .inl (fun _ => 0))), ((h 21), .inl (cy 0, 8, .inl (fun _ => 0))), ((h 32), .inl (cy 0, 3, .inl f_4)), ((h 33), .inl (cy 0, 120, .inl (fun _ => 0))), ((h 34), .inl (cy 0, 120, .inl (fun _ => 0))), ((h 35), .inl (cy 0, 24, .inl (fun _ => 0))), ((h 36), .inl (cy 2, 24, .inl (fun _ => 0))), ((h 37), .inl (cy 2, 3, .inl f_5))] H := hP
  replace hD : va_D A [(mo, .inr (12, [.ref (h 0), .ref (h 1), .int 0, .int 0, .int 0, .int (-1), .int 0, .int 0, .int 0, .int 0, .long 0, .ref (h 2), .ref (h 3), .ref (h 4), .ref (h 5), .ref (h 6), .ref (h 7), .ref (h 8), .ref (h 9), .ref (h 10), .ref (h 11), .ref (h 12), .ref (h 13), .ref (h 14), .ref (h 15), .ref (h 16), .ref (h 17), .ref (h 18), .ref (h 19), .int 0, .int 0, .int 0, .int 0, .int 0, .int 0, .ref (h 20), .ref (h 21), .int 0, .ref (h 22), .ref (h 23), .ref (h 24), .ref (h 25), .ref (h 26), .int 0, .int 0, .ref (h 27), .ref (h 28), .ref (h 29), .ref (h 30), .ref (h 31), .int 0, .int 0, .ref (h 32), .ref (h 33), .ref (h 34), .ref (h 35), .ref (h 36), .ref (h 37)])), ((h 0), .inl (cy 1, 1720, .inl (fun _ => 0))), ((h 2), .inl (cy 0, 2, .inl (fun _ => 0))), ((h 3), .inl (cy 0, 2, .inl (fun _ => 0))), ((h 4), .inl (cy 0, 2, .inl (fun _ => 0))), ((h 5), .inl (cy 0, 2, .inl (f 0))), ((h 12), .inl (cy 2, 2, .inl (f 1))), ((h 7), .inl (cy 0, 1200, .inl (fun _ => 0))), ((h 8), .inl (cy 0, 1200, .inl (fun _ => 0))), ((h 20), .inl (cy 2, 8, .inl (fun _ => 0))), ((h 21), .inl (cy 0, 8, .inl (fun _ => 0))), ((h 32), .inl (cy 0, 3, .inl f_4)), ((h 33), .inl (cy 0, 120, .inl (fun _ => 0))), ((h 34), .inl (cy 0, 120, .inl (fun _ => 0))), ((h 35), .inl (cy 0, 24, .inl (fun _ => 0))), ((h 36), .inl (cy 2, 24, .inl (fun _ => 0))), ((h 37), .inl (cy 2, 3, .inl f_5))] := hD
  refine lv_iinc (v := 27) (lv' := [(2, .int 27), (0, .ref mo), (1, .int 0)]) hx hb dX12_image_81 hl (k := 0) rfl (by decide) (by decide) rfl ?_
  clear hl
  try clear ls
  intro ls hl
  refine lv_goto (tgt := 33) hx hb dX12_image_84 (by decide) ?_
  refine lv_iload_n hx hb dX12_image_33 rfl (lv_at hl 0 rfl) ?_
  refine lv_bipush (v := 40) hx hb dX12_image_34 (by decide) ?_
  refine lv_icmp_ge (tgt := 87) hx hb dX12_image_36 (by decide) (fun c9 => absurd c9 (by decide)) (fun _ => ?_)
  refine lv_aload_n hx hb dX12_image_39 rfl (lv_at hl 1 rfl) ?_
  refine va_get (ci := 12) (v := .ref (h 33)) (C := RX12) (T := TX12) (N := 58) hx hb ht iX12 hown hK hP 0 rfl rfl 53 (by decide) (ht _ k_305) (fun _ h9 => h9) rfl dX12_image_40 ?_
  refine lv_bipush (v := 40) hx hb dX12_image_43 (by decide) ?_
  refine lv_iload_n hx hb dX12_image_45 rfl (lv_at hl 2 rfl) ?_
  refine lv_imul hx hb dX12_image_46 ?_
  refine ow_top 0 (by decide +kernel) ?_
  refine lv_iload_n hx hb dX12_image_47 rfl (lv_at hl 0 rfl) ?_
  refine lv_iadd hx hb dX12_image_48 ?_
  refine ow_top 27 (by decide +kernel) ?_
  refine lv_aload_n hx hb dX12_image_49 rfl (lv_at hl 1 rfl) ?_
  refine va_get (ci := 12) (v := .ref (h 7)) (C := RX12) (T := TX12) (N := 58) hx hb ht iX12 hown hK hP 0 rfl rfl 16 (by decide) (ht _ k_280) (fun _ h9 => h9) rfl dX12_image_50 ?_
  refine lv_sipush (v := 1120) hx hb dX12_image_53 (by decide) ?_
  refine lv_iload_n hx hb dX12_image_56 rfl (lv_at hl 0 rfl) ?_
  refine lv_iadd hx hb dX12_image_57 ?_
  refine ow_top 1147 (by decide +kernel) ?_
  refine va_iald hx hb hK hP 7 0 rfl rfl (in_lit (by decide +kernel)) dX12_image_58 ?_
  refine ow_top 0 rfl ?_
  refine ow_iastS hx hb hK hP hD hS 12 rfl (in_lit (by decide +kernel)) dX12_image_59 ?_
  clear hP hD hS
  try clear H locs
  intro H locs hP hD hS
  replace hP : va_P G vwCl [(mo, .inr (12, [.ref (h 0), .ref (h 1), .int 0, .int 0, .int 0, .int (-1), .int 0, .int 0, .int 0, .int 0, .long 0, .ref (h 2), .ref (h 3), .ref (h 4), .ref (h 5), .ref (h 6), .ref (h 7), .ref (h 8), .ref (h 9), .ref (h 10), .ref (h 11), .ref (h 12), .ref (h 13), .ref (h 14), .ref (h 15), .ref (h 16), .ref (h 17), .ref (h 18), .ref (h 19), .int 0, .int 0, .int 0, .int 0, .int 0, .int 0, .ref (h 20), .ref (h 21), .int 0, .ref (h 22), .ref (h 23), .ref (h 24), .ref (h 25), .ref (h 26), .int 0, .int 0, .ref (h 27), .ref (h 28), .ref (h 29), .ref (h 30), .ref (h 31), .int 0, .int 0, .ref (h 32), .ref (h 33), .ref (h 34), .ref (h 35), .ref (h 36), .ref (h 37)])), ((h 0), .inl (cy 1, 1720, .inl (fun _ => 0))), ((h 2), .inl (cy 0, 2, .inl (fun _ => 0))), ((h 3), .inl (cy 0, 2, .inl (fun _ => 0))), ((h 4), .inl (cy 0, 2, .inl (fun _ => 0))), ((h 5), .inl (cy 0, 2, .inl (f 0))), ((h 12), .inl (cy 2, 2, .inl (f 1))), ((h 7), .inl (cy 0, 1200, .inl (fun _ => 0))), ((h 8), .inl (cy 0, 1200, .inl (fun _ => 0))), ((h 20), .inl (cy 2, 8, .inl (fun _ => 0))), ((h 21), .inl (cy 0, 8, .inl (fun _ => 0))), ((h 32), .inl (cy 0, 3, .inl f_4)), ((h 33), .inl (cy 0, 120, .inl (fun _ => 0))), ((h 34), .inl (cy 0, 120, .inl (fun _ => 0))), ((h 35), .inl (cy 0, 24, .inl (fun _ => 0))), ((h 36), .inl (cy 2, 24, .inl (fun _ => 0))), ((h 37), .inl (cy 2, 3, .inl f_5))] H := hP
  replace hD : va_D A [(mo, .inr (12, [.ref (h 0), .ref (h 1), .int 0, .int 0, .int 0, .int (-1), .int 0, .int 0, .int 0, .int 0, .long 0, .ref (h 2), .ref (h 3), .ref (h 4), .ref (h 5), .ref (h 6), .ref (h 7), .ref (h 8), .ref (h 9), .ref (h 10), .ref (h 11), .ref (h 12), .ref (h 13), .ref (h 14), .ref (h 15), .ref (h 16), .ref (h 17), .ref (h 18), .ref (h 19), .int 0, .int 0, .int 0, .int 0, .int 0, .int 0, .ref (h 20), .ref (h 21), .int 0, .ref (h 22), .ref (h 23), .ref (h 24), .ref (h 25), .ref (h 26), .int 0, .int 0, .ref (h 27), .ref (h 28), .ref (h 29), .ref (h 30), .ref (h 31), .int 0, .int 0, .ref (h 32), .ref (h 33), .ref (h 34), .ref (h 35), .ref (h 36), .ref (h 37)])), ((h 0), .inl (cy 1, 1720, .inl (fun _ => 0))), ((h 2), .inl (cy 0, 2, .inl (fun _ => 0))), ((h 3), .inl (cy 0, 2, .inl (fun _ => 0))), ((h 4), .inl (cy 0, 2, .inl (fun _ => 0))), ((h 5), .inl (cy 0, 2, .inl (f 0))), ((h 12), .inl (cy 2, 2, .inl (f 1))), ((h 7), .inl (cy 0, 1200, .inl (fun _ => 0))), ((h 8), .inl (cy 0, 1200, .inl (fun _ => 0))), ((h 20), .inl (cy 2, 8, .inl (fun _ => 0))), ((h 21), .inl (cy 0, 8, .inl (fun _ => 0))), ((h 32), .inl (cy 0, 3, .inl f_4)), ((h 33), .inl (cy 0, 120, .inl (fun _ => 0))), ((h 34), .inl (cy 0, 120, .inl (fun _ => 0))), ((h 35), .inl (cy 0, 24, .inl (fun _ => 0))), ((h 36), .inl (cy 2, 24, .inl (fun _ => 0))), ((h 37), .inl (cy 2, 3, .inl f_5))] := hD
  refine lv_aload_n hx hb dX12_image_60 rfl (lv_at hl 1 rfl) ?_
  refine va_get (ci := 12) (v := .ref (h 34)) (C := RX12) (T := TX12) (N := 58) hx hb ht iX12 hown hK hP 0 rfl rfl 54 (by decide) (ht _ k_306) (fun _ h9 => h9) rfl dX12_image_61 ?_
  refine lv_bipush (v := 40) hx hb dX12_image_64 (by decide) ?_
  refine lv_iload_n hx hb dX12_image_66 rfl (lv_at hl 2 rfl) ?_
  refine lv_imul hx hb dX12_image_67 ?_
  refine ow_top 0 (by decide +kernel) ?_
  refine lv_iload_n hx hb dX12_image_68 rfl (lv_at hl 0 rfl) ?_
  refine lv_iadd hx hb dX12_image_69 ?_
  refine ow_top 27 (by decide +kernel) ?_
  refine lv_aload_n hx hb dX12_image_70 rfl (lv_at hl 1 rfl) ?_
  refine va_get (ci := 12) (v := .ref (h 8)) (C := RX12) (T := TX12) (N := 58) hx hb ht iX12 hown hK hP 0 rfl rfl 17 (by decide) (ht _ k_281) (fun _ h9 => h9) rfl dX12_image_71 ?_
  refine lv_sipush (v := 1120) hx hb dX12_image_74 (by decide) ?_
  refine lv_iload_n hx hb dX12_image_77 rfl (lv_at hl 0 rfl) ?_
  refine lv_iadd hx hb dX12_image_78 ?_
  refine ow_top 1147 (by decide +kernel) ?_
  refine va_iald hx hb hK hP 8 0 rfl rfl (in_lit (by decide +kernel)) dX12_image_79 ?_
  refine ow_top 0 rfl ?_
  refine ow_iastS hx hb hK hP hD hS 13 rfl (in_lit (by decide +kernel)) dX12_image_80 ?_
  clear hP hD hS
  try clear H locs
  intro H locs hP hD hS
  replace hP : va_P G vwCl [(mo, .inr (12, [.ref (h 0), .ref (h 1), .int 0, .int 0, .int 0, .int (-1), .int 0, .int 0, .int 0, .int 0, .long 0, .ref (h 2), .ref (h 3), .ref (h 4), .ref (h 5), .ref (h 6), .ref (h 7), .ref (h 8), .ref (h 9), .ref (h 10), .ref (h 11), .ref (h 12), .ref (h 13), .ref (h 14), .ref (h 15), .ref (h 16), .ref (h 17), .ref (h 18), .ref (h 19), .int 0, .int 0, .int 0, .int 0, .int 0, .int 0, .ref (h 20), .ref (h 21), .int 0, .ref (h 22), .ref (h 23), .ref (h 24), .ref (h 25), .ref (h 26), .int 0, .int 0, .ref (h 27), .ref (h 28), .ref (h 29), .ref (h 30), .ref (h 31), .int 0, .int 0, .ref (h 32), .ref (h 33), .ref (h 34), .ref (h 35), .ref (h 36), .ref (h 37)])), ((h 0), .inl (cy 1, 1720, .inl (fun _ => 0))), ((h 2), .inl (cy 0, 2, .inl (fun _ => 0))), ((h 3), .inl (cy 0, 2, .inl (fun _ => 0))), ((h 4), .inl (cy 0, 2, .inl (fun _ => 0))), ((h 5), .inl (cy 0, 2, .inl (f 0))), ((h 12), .inl (cy 2, 2, .inl (f 1))), ((h 7), .inl (cy 0, 1200, .inl (fun _ => 0))), ((h 8), .inl (cy 0, 1200, .inl (fun _ => 0))), ((h 20), .inl (cy 2, 8, .inl (fun _ => 0))), ((h 21), .inl (cy 0, 8, .inl (fun _ => 0))), ((h 32), .inl (cy 0, 3, .inl f_4)), ((h 33), .inl (cy 0, 120, .inl (fun _ => 0))), ((h 34), .inl (cy 0, 120, .inl (fun _ => 0))), ((h 35), .inl (cy 0, 24, .inl (fun _ => 0))), ((h 36), .inl (cy 2, 24, .inl (fun _ => 0))), ((h 37), .inl (cy 2, 3, .inl f_5))] H := hP
  replace hD : va_D A [(mo, .inr (12, [.ref (h 0), .ref (h 1), .int 0, .int 0, .int 0, .int (-1), .int 0, .int 0, .int 0, .int 0, .long 0, .ref (h 2), .ref (h 3), .ref (h 4), .ref (h 5), .ref (h 6), .ref (h 7), .ref (h 8), .ref (h 9), .ref (h 10), .ref (h 11), .ref (h 12), .ref (h 13), .ref (h 14), .ref (h 15), .ref (h 16), .ref (h 17), .ref (h 18), .ref (h 19), .int 0, .int 0, .int 0, .int 0, .int 0, .int 0, .ref (h 20), .ref (h 21), .int 0, .ref (h 22), .ref (h 23), .ref (h 24), .ref (h 25), .ref (h 26), .int 0, .int 0, .ref (h 27), .ref (h 28), .ref (h 29), .ref (h 30), .ref (h 31), .int 0, .int 0, .ref (h 32), .ref (h 33), .ref (h 34), .ref (h 35), .ref (h 36), .ref (h 37)])), ((h 0), .inl (cy 1, 1720, .inl (fun _ => 0))), ((h 2), .inl (cy 0, 2, .inl (fun _ => 0))), ((h 3), .inl (cy 0, 2, .inl (fun _ => 0))), ((h 4), .inl (cy 0, 2, .inl (fun _ => 0))), ((h 5), .inl (cy 0, 2, .inl (f 0))), ((h 12), .inl (cy 2, 2, .inl (f 1))), ((h 7), .inl (cy 0, 1200, .inl (fun _ => 0))), ((h 8), .inl (cy 0, 1200, .inl (fun _ => 0))), ((h 20), .inl (cy 2, 8, .inl (fun _ => 0))), ((h 21), .inl (cy 0, 8, .inl (fun _ => 0))), ((h 32), .inl (cy 0, 3, .inl f_4)), ((h 33), .inl (cy 0, 120, .inl (fun _ => 0))), ((h 34), .inl (cy 0, 120, .inl (fun _ => 0))), ((h 35), .inl (cy 0, 24, .inl (fun _ => 0))), ((h 36), .inl (cy 2, 24, .inl (fun _ => 0))), ((h 37), .inl (cy 2, 3, .inl f_5))] := hD
  refine lv_iinc (v := 28) (lv' := [(2, .int 28), (0, .ref mo), (1, .int 0)]) hx hb dX12_image_81 hl (k := 0) rfl (by decide) (by decide) rfl ?_
  clear hl
  try clear ls
  intro ls hl
  refine lv_goto (tgt := 33) hx hb dX12_image_84 (by decide) ?_
  refine lv_iload_n hx hb dX12_image_33 rfl (lv_at hl 0 rfl) ?_
  refine lv_bipush (v := 40) hx hb dX12_image_34 (by decide) ?_
  refine lv_icmp_ge (tgt := 87) hx hb dX12_image_36 (by decide) (fun c9 => absurd c9 (by decide)) (fun _ => ?_)
  refine lv_aload_n hx hb dX12_image_39 rfl (lv_at hl 1 rfl) ?_
  refine va_get (ci := 12) (v := .ref (h 33)) (C := RX12) (T := TX12) (N := 58) hx hb ht iX12 hown hK hP 0 rfl rfl 53 (by decide) (ht _ k_305) (fun _ h9 => h9) rfl dX12_image_40 ?_
  refine lv_bipush (v := 40) hx hb dX12_image_43 (by decide) ?_
  refine lv_iload_n hx hb dX12_image_45 rfl (lv_at hl 2 rfl) ?_
  refine lv_imul hx hb dX12_image_46 ?_
  refine ow_top 0 (by decide +kernel) ?_
  refine lv_iload_n hx hb dX12_image_47 rfl (lv_at hl 0 rfl) ?_
  refine lv_iadd hx hb dX12_image_48 ?_
  refine ow_top 28 (by decide +kernel) ?_
  refine lv_aload_n hx hb dX12_image_49 rfl (lv_at hl 1 rfl) ?_
  refine va_get (ci := 12) (v := .ref (h 7)) (C := RX12) (T := TX12) (N := 58) hx hb ht iX12 hown hK hP 0 rfl rfl 16 (by decide) (ht _ k_280) (fun _ h9 => h9) rfl dX12_image_50 ?_
  refine lv_sipush (v := 1120) hx hb dX12_image_53 (by decide) ?_
  refine lv_iload_n hx hb dX12_image_56 rfl (lv_at hl 0 rfl) ?_
  refine lv_iadd hx hb dX12_image_57 ?_
  refine ow_top 1148 (by decide +kernel) ?_
  refine va_iald hx hb hK hP 7 0 rfl rfl (in_lit (by decide +kernel)) dX12_image_58 ?_
  refine ow_top 0 rfl ?_
  refine ow_iastS hx hb hK hP hD hS 12 rfl (in_lit (by decide +kernel)) dX12_image_59 ?_
  clear hP hD hS
  try clear H locs
  intro H locs hP hD hS
  replace hP : va_P G vwCl [(mo, .inr (12, [.ref (h 0), .ref (h 1), .int 0, .int 0, .int 0, .int (-1), .int 0, .int 0, .int 0, .int 0, .long 0, .ref (h 2), .ref (h 3), .ref (h 4), .ref (h 5), .ref (h 6), .ref (h 7), .ref (h 8), .ref (h 9), .ref (h 10), .ref (h 11), .ref (h 12), .ref (h 13), .ref (h 14), .ref (h 15), .ref (h 16), .ref (h 17), .ref (h 18), .ref (h 19), .int 0, .int 0, .int 0, .int 0, .int 0, .int 0, .ref (h 20), .ref (h 21), .int 0, .ref (h 22), .ref (h 23), .ref (h 24), .ref (h 25), .ref (h 26), .int 0, .int 0, .ref (h 27), .ref (h 28), .ref (h 29), .ref (h 30), .ref (h 31), .int 0, .int 0, .ref (h 32), .ref (h 33), .ref (h 34), .ref (h 35), .ref (h 36), .ref (h 37)])), ((h 0), .inl (cy 1, 1720, .inl (fun _ => 0))), ((h 2), .inl (cy 0, 2, .inl (fun _ => 0))), ((h 3), .inl (cy 0, 2, .inl (fun _ => 0))), ((h 4), .inl (cy 0, 2, .inl (fun _ => 0))), ((h 5), .inl (cy 0, 2, .inl (f 0))), ((h 12), .inl (cy 2, 2, .inl (f 1))), ((h 7), .inl (cy 0, 1200, .inl (fun _ => 0))), ((h 8), .inl (cy 0, 1200, .inl (fun _ => 0))), ((h 20), .inl (cy 2, 8, .inl (fun _ => 0))), ((h 21), .inl (cy 0, 8, .inl (fun _ => 0))), ((h 32), .inl (cy 0, 3, .inl f_4)), ((h 33), .inl (cy 0, 120, .inl (fun _ => 0))), ((h 34), .inl (cy 0, 120, .inl (fun _ => 0))), ((h 35), .inl (cy 0, 24, .inl (fun _ => 0))), ((h 36), .inl (cy 2, 24, .inl (fun _ => 0))), ((h 37), .inl (cy 2, 3, .inl f_5))] H := hP
  replace hD : va_D A [(mo, .inr (12, [.ref (h 0), .ref (h 1), .int 0, .int 0, .int 0, .int (-1), .int 0, .int 0, .int 0, .int 0, .long 0, .ref (h 2), .ref (h 3), .ref (h 4), .ref (h 5), .ref (h 6), .ref (h 7), .ref (h 8), .ref (h 9), .ref (h 10), .ref (h 11), .ref (h 12), .ref (h 13), .ref (h 14), .ref (h 15), .ref (h 16), .ref (h 17), .ref (h 18), .ref (h 19), .int 0, .int 0, .int 0, .int 0, .int 0, .int 0, .ref (h 20), .ref (h 21), .int 0, .ref (h 22), .ref (h 23), .ref (h 24), .ref (h 25), .ref (h 26), .int 0, .int 0, .ref (h 27), .ref (h 28), .ref (h 29), .ref (h 30), .ref (h 31), .int 0, .int 0, .ref (h 32), .ref (h 33), .ref (h 34), .ref (h 35), .ref (h 36), .ref (h 37)])), ((h 0), .inl (cy 1, 1720, .inl (fun _ => 0))), ((h 2), .inl (cy 0, 2, .inl (fun _ => 0))), ((h 3), .inl (cy 0, 2, .inl (fun _ => 0))), ((h 4), .inl (cy 0, 2, .inl (fun _ => 0))), ((h 5), .inl (cy 0, 2, .inl (f 0))), ((h 12), .inl (cy 2, 2, .inl (f 1))), ((h 7), .inl (cy 0, 1200, .inl (fun _ => 0))), ((h 8), .inl (cy 0, 1200, .inl (fun _ => 0))), ((h 20), .inl (cy 2, 8, .inl (fun _ => 0))), ((h 21), .inl (cy 0, 8, .inl (fun _ => 0))), ((h 32), .inl (cy 0, 3, .inl f_4)), ((h 33), .inl (cy 0, 120, .inl (fun _ => 0))), ((h 34), .inl (cy 0, 120, .inl (fun _ => 0))), ((h 35), .inl (cy 0, 24, .inl (fun _ => 0))), ((h 36), .inl (cy 2, 24, .inl (fun _ => 0))), ((h 37), .inl (cy 2, 3, .inl f_5))] := hD
  refine lv_aload_n hx hb dX12_image_60 rfl (lv_at hl 1 rfl) ?_
  refine va_get (ci := 12) (v := .ref (h 34)) (C := RX12) (T := TX12) (N := 58) hx hb ht iX12 hown hK hP 0 rfl rfl 54 (by decide) (ht _ k_306) (fun _ h9 => h9) rfl dX12_image_61 ?_
  refine lv_bipush (v := 40) hx hb dX12_image_64 (by decide) ?_
  refine lv_iload_n hx hb dX12_image_66 rfl (lv_at hl 2 rfl) ?_
  refine lv_imul hx hb dX12_image_67 ?_
  refine ow_top 0 (by decide +kernel) ?_
  refine lv_iload_n hx hb dX12_image_68 rfl (lv_at hl 0 rfl) ?_
  refine lv_iadd hx hb dX12_image_69 ?_
  refine ow_top 28 (by decide +kernel) ?_
  refine lv_aload_n hx hb dX12_image_70 rfl (lv_at hl 1 rfl) ?_
  refine va_get (ci := 12) (v := .ref (h 8)) (C := RX12) (T := TX12) (N := 58) hx hb ht iX12 hown hK hP 0 rfl rfl 17 (by decide) (ht _ k_281) (fun _ h9 => h9) rfl dX12_image_71 ?_
  refine lv_sipush (v := 1120) hx hb dX12_image_74 (by decide) ?_
  refine lv_iload_n hx hb dX12_image_77 rfl (lv_at hl 0 rfl) ?_
  refine lv_iadd hx hb dX12_image_78 ?_
  refine ow_top 1148 (by decide +kernel) ?_
  refine va_iald hx hb hK hP 8 0 rfl rfl (in_lit (by decide +kernel)) dX12_image_79 ?_
  refine ow_top 0 rfl ?_
  refine ow_iastS hx hb hK hP hD hS 13 rfl (in_lit (by decide +kernel)) dX12_image_80 ?_
  clear hP hD hS
  try clear H locs
  intro H locs hP hD hS
  replace hP : va_P G vwCl [(mo, .inr (12, [.ref (h 0), .ref (h 1), .int 0, .int 0, .int 0, .int (-1), .int 0, .int 0, .int 0, .int 0, .long 0, .ref (h 2), .ref (h 3), .ref (h 4), .ref (h 5), .ref (h 6), .ref (h 7), .ref (h 8), .ref (h 9), .ref (h 10), .ref (h 11), .ref (h 12), .ref (h 13), .ref (h 14), .ref (h 15), .ref (h 16), .ref (h 17), .ref (h 18), .ref (h 19), .int 0, .int 0, .int 0, .int 0, .int 0, .int 0, .ref (h 20), .ref (h 21), .int 0, .ref (h 22), .ref (h 23), .ref (h 24), .ref (h 25), .ref (h 26), .int 0, .int 0, .ref (h 27), .ref (h 28), .ref (h 29), .ref (h 30), .ref (h 31), .int 0, .int 0, .ref (h 32), .ref (h 33), .ref (h 34), .ref (h 35), .ref (h 36), .ref (h 37)])), ((h 0), .inl (cy 1, 1720, .inl (fun _ => 0))), ((h 2), .inl (cy 0, 2, .inl (fun _ => 0))), ((h 3), .inl (cy 0, 2, .inl (fun _ => 0))), ((h 4), .inl (cy 0, 2, .inl (fun _ => 0))), ((h 5), .inl (cy 0, 2, .inl (f 0))), ((h 12), .inl (cy 2, 2, .inl (f 1))), ((h 7), .inl (cy 0, 1200, .inl (fun _ => 0))), ((h 8), .inl (cy 0, 1200, .inl (fun _ => 0))), ((h 20), .inl (cy 2, 8, .inl (fun _ => 0))), ((h 21), .inl (cy 0, 8, .inl (fun _ => 0))), ((h 32), .inl (cy 0, 3, .inl f_4)), ((h 33), .inl (cy 0, 120, .inl (fun _ => 0))), ((h 34), .inl (cy 0, 120, .inl (fun _ => 0))), ((h 35), .inl (cy 0, 24, .inl (fun _ => 0))), ((h 36), .inl (cy 2, 24, .inl (fun _ => 0))), ((h 37), .inl (cy 2, 3, .inl f_5))] H := hP
  replace hD : va_D A [(mo, .inr (12, [.ref (h 0), .ref (h 1), .int 0, .int 0, .int 0, .int (-1), .int 0, .int 0, .int 0, .int 0, .long 0, .ref (h 2), .ref (h 3), .ref (h 4), .ref (h 5), .ref (h 6), .ref (h 7), .ref (h 8), .ref (h 9), .ref (h 10), .ref (h 11), .ref (h 12), .ref (h 13), .ref (h 14), .ref (h 15), .ref (h 16), .ref (h 17), .ref (h 18), .ref (h 19), .int 0, .int 0, .int 0, .int 0, .int 0, .int 0, .ref (h 20), .ref (h 21), .int 0, .ref (h 22), .ref (h 23), .ref (h 24), .ref (h 25), .ref (h 26), .int 0, .int 0, .ref (h 27), .ref (h 28), .ref (h 29), .ref (h 30), .ref (h 31), .int 0, .int 0, .ref (h 32), .ref (h 33), .ref (h 34), .ref (h 35), .ref (h 36), .ref (h 37)])), ((h 0), .inl (cy 1, 1720, .inl (fun _ => 0))), ((h 2), .inl (cy 0, 2, .inl (fun _ => 0))), ((h 3), .inl (cy 0, 2, .inl (fun _ => 0))), ((h 4), .inl (cy 0, 2, .inl (fun _ => 0))), ((h 5), .inl (cy 0, 2, .inl (f 0))), ((h 12), .inl (cy 2, 2, .inl (f 1))), ((h 7), .inl (cy 0, 1200, .inl (fun _ => 0))), ((h 8), .inl (cy 0, 1200, .inl (fun _ => 0))), ((h 20), .inl (cy 2, 8, .inl (fun _ => 0))), ((h 21), .inl (cy 0, 8, .inl (fun _ => 0))), ((h 32), .inl (cy 0, 3, .inl f_4)), ((h 33), .inl (cy 0, 120, .inl (fun _ => 0))), ((h 34), .inl (cy 0, 120, .inl (fun _ => 0))), ((h 35), .inl (cy 0, 24, .inl (fun _ => 0))), ((h 36), .inl (cy 2, 24, .inl (fun _ => 0))), ((h 37), .inl (cy 2, 3, .inl f_5))] := hD
  refine lv_iinc (v := 29) (lv' := [(2, .int 29), (0, .ref mo), (1, .int 0)]) hx hb dX12_image_81 hl (k := 0) rfl (by decide) (by decide) rfl ?_
  clear hl
  try clear ls
  intro ls hl
  refine lv_goto (tgt := 33) hx hb dX12_image_84 (by decide) ?_
  refine lv_iload_n hx hb dX12_image_33 rfl (lv_at hl 0 rfl) ?_
  refine lv_bipush (v := 40) hx hb dX12_image_34 (by decide) ?_
  refine lv_icmp_ge (tgt := 87) hx hb dX12_image_36 (by decide) (fun c9 => absurd c9 (by decide)) (fun _ => ?_)
  refine lv_aload_n hx hb dX12_image_39 rfl (lv_at hl 1 rfl) ?_
  refine va_get (ci := 12) (v := .ref (h 33)) (C := RX12) (T := TX12) (N := 58) hx hb ht iX12 hown hK hP 0 rfl rfl 53 (by decide) (ht _ k_305) (fun _ h9 => h9) rfl dX12_image_40 ?_
  refine lv_bipush (v := 40) hx hb dX12_image_43 (by decide) ?_
  refine lv_iload_n hx hb dX12_image_45 rfl (lv_at hl 2 rfl) ?_
  refine lv_imul hx hb dX12_image_46 ?_
  refine ow_top 0 (by decide +kernel) ?_
  refine lv_iload_n hx hb dX12_image_47 rfl (lv_at hl 0 rfl) ?_
  refine lv_iadd hx hb dX12_image_48 ?_
  refine ow_top 29 (by decide +kernel) ?_
  refine lv_aload_n hx hb dX12_image_49 rfl (lv_at hl 1 rfl) ?_
  refine va_get (ci := 12) (v := .ref (h 7)) (C := RX12) (T := TX12) (N := 58) hx hb ht iX12 hown hK hP 0 rfl rfl 16 (by decide) (ht _ k_280) (fun _ h9 => h9) rfl dX12_image_50 ?_
  refine lv_sipush (v := 1120) hx hb dX12_image_53 (by decide) ?_
  refine lv_iload_n hx hb dX12_image_56 rfl (lv_at hl 0 rfl) ?_
  refine lv_iadd hx hb dX12_image_57 ?_
  refine ow_top 1149 (by decide +kernel) ?_
  refine va_iald hx hb hK hP 7 0 rfl rfl (in_lit (by decide +kernel)) dX12_image_58 ?_
  refine ow_top 0 rfl ?_
  refine ow_iastS hx hb hK hP hD hS 12 rfl (in_lit (by decide +kernel)) dX12_image_59 ?_
  clear hP hD hS
  try clear H locs
  intro H locs hP hD hS
  replace hP : va_P G vwCl [(mo, .inr (12, [.ref (h 0), .ref (h 1), .int 0, .int 0, .int 0, .int (-1), .int 0, .int 0, .int 0, .int 0, .long 0, .ref (h 2), .ref (h 3), .ref (h 4), .ref (h 5), .ref (h 6), .ref (h 7), .ref (h 8), .ref (h 9), .ref (h 10), .ref (h 11), .ref (h 12), .ref (h 13), .ref (h 14), .ref (h 15), .ref (h 16), .ref (h 17), .ref (h 18), .ref (h 19), .int 0, .int 0, .int 0, .int 0, .int 0, .int 0, .ref (h 20), .ref (h 21), .int 0, .ref (h 22), .ref (h 23), .ref (h 24), .ref (h 25), .ref (h 26), .int 0, .int 0, .ref (h 27), .ref (h 28), .ref (h 29), .ref (h 30), .ref (h 31), .int 0, .int 0, .ref (h 32), .ref (h 33), .ref (h 34), .ref (h 35), .ref (h 36), .ref (h 37)])), ((h 0), .inl (cy 1, 1720, .inl (fun _ => 0))), ((h 2), .inl (cy 0, 2, .inl (fun _ => 0))), ((h 3), .inl (cy 0, 2, .inl (fun _ => 0))), ((h 4), .inl (cy 0, 2, .inl (fun _ => 0))), ((h 5), .inl (cy 0, 2, .inl (f 0))), ((h 12), .inl (cy 2, 2, .inl (f 1))), ((h 7), .inl (cy 0, 1200, .inl (fun _ => 0))), ((h 8), .inl (cy 0, 1200, .inl (fun _ => 0))), ((h 20), .inl (cy 2, 8, .inl (fun _ => 0))), ((h 21), .inl (cy 0, 8, .inl (fun _ => 0))), ((h 32), .inl (cy 0, 3, .inl f_4)), ((h 33), .inl (cy 0, 120, .inl (fun _ => 0))), ((h 34), .inl (cy 0, 120, .inl (fun _ => 0))), ((h 35), .inl (cy 0, 24, .inl (fun _ => 0))), ((h 36), .inl (cy 2, 24, .inl (fun _ => 0))), ((h 37), .inl (cy 2, 3, .inl f_5))] H := hP
  replace hD : va_D A [(mo, .inr (12, [.ref (h 0), .ref (h 1), .int 0, .int 0, .int 0, .int (-1), .int 0, .int 0, .int 0, .int 0, .long 0, .ref (h 2), .ref (h 3), .ref (h 4), .ref (h 5), .ref (h 6), .ref (h 7), .ref (h 8), .ref (h 9), .ref (h 10), .ref (h 11), .ref (h 12), .ref (h 13), .ref (h 14), .ref (h 15), .ref (h 16), .ref (h 17), .ref (h 18), .ref (h 19), .int 0, .int 0, .int 0, .int 0, .int 0, .int 0, .ref (h 20), .ref (h 21), .int 0, .ref (h 22), .ref (h 23), .ref (h 24), .ref (h 25), .ref (h 26), .int 0, .int 0, .ref (h 27), .ref (h 28), .ref (h 29), .ref (h 30), .ref (h 31), .int 0, .int 0, .ref (h 32), .ref (h 33), .ref (h 34), .ref (h 35), .ref (h 36), .ref (h 37)])), ((h 0), .inl (cy 1, 1720, .inl (fun _ => 0))), ((h 2), .inl (cy 0, 2, .inl (fun _ => 0))), ((h 3), .inl (cy 0, 2, .inl (fun _ => 0))), ((h 4), .inl (cy 0, 2, .inl (fun _ => 0))), ((h 5), .inl (cy 0, 2, .inl (f 0))), ((h 12), .inl (cy 2, 2, .inl (f 1))), ((h 7), .inl (cy 0, 1200, .inl (fun _ => 0))), ((h 8), .inl (cy 0, 1200, .inl (fun _ => 0))), ((h 20), .inl (cy 2, 8, .inl (fun _ => 0))), ((h 21), .inl (cy 0, 8, .inl (fun _ => 0))), ((h 32), .inl (cy 0, 3, .inl f_4)), ((h 33), .inl (cy 0, 120, .inl (fun _ => 0))), ((h 34), .inl (cy 0, 120, .inl (fun _ => 0))), ((h 35), .inl (cy 0, 24, .inl (fun _ => 0))), ((h 36), .inl (cy 2, 24, .inl (fun _ => 0))), ((h 37), .inl (cy 2, 3, .inl f_5))] := hD
  refine lv_aload_n hx hb dX12_image_60 rfl (lv_at hl 1 rfl) ?_
  refine va_get (ci := 12) (v := .ref (h 34)) (C := RX12) (T := TX12) (N := 58) hx hb ht iX12 hown hK hP 0 rfl rfl 54 (by decide) (ht _ k_306) (fun _ h9 => h9) rfl dX12_image_61 ?_
  refine lv_bipush (v := 40) hx hb dX12_image_64 (by decide) ?_
  refine lv_iload_n hx hb dX12_image_66 rfl (lv_at hl 2 rfl) ?_
  refine lv_imul hx hb dX12_image_67 ?_
  refine ow_top 0 (by decide +kernel) ?_
  refine lv_iload_n hx hb dX12_image_68 rfl (lv_at hl 0 rfl) ?_
  refine lv_iadd hx hb dX12_image_69 ?_
  refine ow_top 29 (by decide +kernel) ?_
  refine lv_aload_n hx hb dX12_image_70 rfl (lv_at hl 1 rfl) ?_
  refine va_get (ci := 12) (v := .ref (h 8)) (C := RX12) (T := TX12) (N := 58) hx hb ht iX12 hown hK hP 0 rfl rfl 17 (by decide) (ht _ k_281) (fun _ h9 => h9) rfl dX12_image_71 ?_
  refine lv_sipush (v := 1120) hx hb dX12_image_74 (by decide) ?_
  refine lv_iload_n hx hb dX12_image_77 rfl (lv_at hl 0 rfl) ?_
  refine lv_iadd hx hb dX12_image_78 ?_
  refine ow_top 1149 (by decide +kernel) ?_
  refine va_iald hx hb hK hP 8 0 rfl rfl (in_lit (by decide +kernel)) dX12_image_79 ?_
  refine ow_top 0 rfl ?_
  refine ow_iastS hx hb hK hP hD hS 13 rfl (in_lit (by decide +kernel)) dX12_image_80 ?_
  clear hP hD hS
  try clear H locs
  intro H locs hP hD hS
  replace hP : va_P G vwCl [(mo, .inr (12, [.ref (h 0), .ref (h 1), .int 0, .int 0, .int 0, .int (-1), .int 0, .int 0, .int 0, .int 0, .long 0, .ref (h 2), .ref (h 3), .ref (h 4), .ref (h 5), .ref (h 6), .ref (h 7), .ref (h 8), .ref (h 9), .ref (h 10), .ref (h 11), .ref (h 12), .ref (h 13), .ref (h 14), .ref (h 15), .ref (h 16), .ref (h 17), .ref (h 18), .ref (h 19), .int 0, .int 0, .int 0, .int 0, .int 0, .int 0, .ref (h 20), .ref (h 21), .int 0, .ref (h 22), .ref (h 23), .ref (h 24), .ref (h 25), .ref (h 26), .int 0, .int 0, .ref (h 27), .ref (h 28), .ref (h 29), .ref (h 30), .ref (h 31), .int 0, .int 0, .ref (h 32), .ref (h 33), .ref (h 34), .ref (h 35), .ref (h 36), .ref (h 37)])), ((h 0), .inl (cy 1, 1720, .inl (fun _ => 0))), ((h 2), .inl (cy 0, 2, .inl (fun _ => 0))), ((h 3), .inl (cy 0, 2, .inl (fun _ => 0))), ((h 4), .inl (cy 0, 2, .inl (fun _ => 0))), ((h 5), .inl (cy 0, 2, .inl (f 0))), ((h 12), .inl (cy 2, 2, .inl (f 1))), ((h 7), .inl (cy 0, 1200, .inl (fun _ => 0))), ((h 8), .inl (cy 0, 1200, .inl (fun _ => 0))), ((h 20), .inl (cy 2, 8, .inl (fun _ => 0))), ((h 21), .inl (cy 0, 8, .inl (fun _ => 0))), ((h 32), .inl (cy 0, 3, .inl f_4)), ((h 33), .inl (cy 0, 120, .inl (fun _ => 0))), ((h 34), .inl (cy 0, 120, .inl (fun _ => 0))), ((h 35), .inl (cy 0, 24, .inl (fun _ => 0))), ((h 36), .inl (cy 2, 24, .inl (fun _ => 0))), ((h 37), .inl (cy 2, 3, .inl f_5))] H := hP
  replace hD : va_D A [(mo, .inr (12, [.ref (h 0), .ref (h 1), .int 0, .int 0, .int 0, .int (-1), .int 0, .int 0, .int 0, .int 0, .long 0, .ref (h 2), .ref (h 3), .ref (h 4), .ref (h 5), .ref (h 6), .ref (h 7), .ref (h 8), .ref (h 9), .ref (h 10), .ref (h 11), .ref (h 12), .ref (h 13), .ref (h 14), .ref (h 15), .ref (h 16), .ref (h 17), .ref (h 18), .ref (h 19), .int 0, .int 0, .int 0, .int 0, .int 0, .int 0, .ref (h 20), .ref (h 21), .int 0, .ref (h 22), .ref (h 23), .ref (h 24), .ref (h 25), .ref (h 26), .int 0, .int 0, .ref (h 27), .ref (h 28), .ref (h 29), .ref (h 30), .ref (h 31), .int 0, .int 0, .ref (h 32), .ref (h 33), .ref (h 34), .ref (h 35), .ref (h 36), .ref (h 37)])), ((h 0), .inl (cy 1, 1720, .inl (fun _ => 0))), ((h 2), .inl (cy 0, 2, .inl (fun _ => 0))), ((h 3), .inl (cy 0, 2, .inl (fun _ => 0))), ((h 4), .inl (cy 0, 2, .inl (fun _ => 0))), ((h 5), .inl (cy 0, 2, .inl (f 0))), ((h 12), .inl (cy 2, 2, .inl (f 1))), ((h 7), .inl (cy 0, 1200, .inl (fun _ => 0))), ((h 8), .inl (cy 0, 1200, .inl (fun _ => 0))), ((h 20), .inl (cy 2, 8, .inl (fun _ => 0))), ((h 21), .inl (cy 0, 8, .inl (fun _ => 0))), ((h 32), .inl (cy 0, 3, .inl f_4)), ((h 33), .inl (cy 0, 120, .inl (fun _ => 0))), ((h 34), .inl (cy 0, 120, .inl (fun _ => 0))), ((h 35), .inl (cy 0, 24, .inl (fun _ => 0))), ((h 36), .inl (cy 2, 24, .inl (fun _ => 0))), ((h 37), .inl (cy 2, 3, .inl f_5))] := hD
  refine lv_iinc (v := 30) (lv' := [(2, .int 30), (0, .ref mo), (1, .int 0)]) hx hb dX12_image_81 hl (k := 0) rfl (by decide) (by decide) rfl ?_
  clear hl
  try clear ls
  intro ls hl
  refine lv_goto (tgt := 33) hx hb dX12_image_84 (by decide) ?_
  refine lv_iload_n hx hb dX12_image_33 rfl (lv_at hl 0 rfl) ?_
  refine lv_bipush (v := 40) hx hb dX12_image_34 (by decide) ?_
  refine lv_icmp_ge (tgt := 87) hx hb dX12_image_36 (by decide) (fun c9 => absurd c9 (by decide)) (fun _ => ?_)
  refine lv_aload_n hx hb dX12_image_39 rfl (lv_at hl 1 rfl) ?_
  refine va_get (ci := 12) (v := .ref (h 33)) (C := RX12) (T := TX12) (N := 58) hx hb ht iX12 hown hK hP 0 rfl rfl 53 (by decide) (ht _ k_305) (fun _ h9 => h9) rfl dX12_image_40 ?_
  refine lv_bipush (v := 40) hx hb dX12_image_43 (by decide) ?_
  refine lv_iload_n hx hb dX12_image_45 rfl (lv_at hl 2 rfl) ?_
  refine lv_imul hx hb dX12_image_46 ?_
  refine ow_top 0 (by decide +kernel) ?_
  refine lv_iload_n hx hb dX12_image_47 rfl (lv_at hl 0 rfl) ?_
  refine lv_iadd hx hb dX12_image_48 ?_
  refine ow_top 30 (by decide +kernel) ?_
  refine lv_aload_n hx hb dX12_image_49 rfl (lv_at hl 1 rfl) ?_
  refine va_get (ci := 12) (v := .ref (h 7)) (C := RX12) (T := TX12) (N := 58) hx hb ht iX12 hown hK hP 0 rfl rfl 16 (by decide) (ht _ k_280) (fun _ h9 => h9) rfl dX12_image_50 ?_
  refine lv_sipush (v := 1120) hx hb dX12_image_53 (by decide) ?_
  refine lv_iload_n hx hb dX12_image_56 rfl (lv_at hl 0 rfl) ?_
  refine lv_iadd hx hb dX12_image_57 ?_
  refine ow_top 1150 (by decide +kernel) ?_
  refine va_iald hx hb hK hP 7 0 rfl rfl (in_lit (by decide +kernel)) dX12_image_58 ?_
  refine ow_top 0 rfl ?_
  refine ow_iastS hx hb hK hP hD hS 12 rfl (in_lit (by decide +kernel)) dX12_image_59 ?_
  clear hP hD hS
  try clear H locs
  intro H locs hP hD hS
  replace hP : va_P G vwCl [(mo, .inr (12, [.ref (h 0), .ref (h 1), .int 0, .int 0, .int 0, .int (-1), .int 0, .int 0, .int 0, .int 0, .long 0, .ref (h 2), .ref (h 3), .ref (h 4), .ref (h 5), .ref (h 6), .ref (h 7), .ref (h 8), .ref (h 9), .ref (h 10), .ref (h 11), .ref (h 12), .ref (h 13), .ref (h 14), .ref (h 15), .ref (h 16), .ref (h 17), .ref (h 18), .ref (h 19), .int 0, .int 0, .int 0, .int 0, .int 0, .int 0, .ref (h 20), .ref (h 21), .int 0, .ref (h 22), .ref (h 23), .ref (h 24), .ref (h 25), .ref (h 26), .int 0, .int 0, .ref (h 27), .ref (h 28), .ref (h 29), .ref (h 30), .ref (h 31), .int 0, .int 0, .ref (h 32), .ref (h 33), .ref (h 34), .ref (h 35), .ref (h 36), .ref (h 37)])), ((h 0), .inl (cy 1, 1720, .inl (fun _ => 0))), ((h 2), .inl (cy 0, 2, .inl (fun _ => 0))), ((h 3), .inl (cy 0, 2, .inl (fun _ => 0))), ((h 4), .inl (cy 0, 2, .inl (fun _ => 0))), ((h 5), .inl (cy 0, 2, .inl (f 0))), ((h 12), .inl (cy 2, 2, .inl (f 1))), ((h 7), .inl (cy 0, 1200, .inl (fun _ => 0))), ((h 8), .inl (cy 0, 1200, .inl (fun _ => 0))), ((h 20), .inl (cy 2, 8, .inl (fun _ => 0))), ((h 21), .inl (cy 0, 8, .inl (fun _ => 0))), ((h 32), .inl (cy 0, 3, .inl f_4)), ((h 33), .inl (cy 0, 120, .inl (fun _ => 0))), ((h 34), .inl (cy 0, 120, .inl (fun _ => 0))), ((h 35), .inl (cy 0, 24, .inl (fun _ => 0))), ((h 36), .inl (cy 2, 24, .inl (fun _ => 0))), ((h 37), .inl (cy 2, 3, .inl f_5))] H := hP
  replace hD : va_D A [(mo, .inr (12, [.ref (h 0), .ref (h 1), .int 0, .int 0, .int 0, .int (-1), .int 0, .int 0, .int 0, .int 0, .long 0, .ref (h 2), .ref (h 3), .ref (h 4), .ref (h 5), .ref (h 6), .ref (h 7), .ref (h 8), .ref (h 9), .ref (h 10), .ref (h 11), .ref (h 12), .ref (h 13), .ref (h 14), .ref (h 15), .ref (h 16), .ref (h 17), .ref (h 18), .ref (h 19), .int 0, .int 0, .int 0, .int 0, .int 0, .int 0, .ref (h 20), .ref (h 21), .int 0, .ref (h 22), .ref (h 23), .ref (h 24), .ref (h 25), .ref (h 26), .int 0, .int 0, .ref (h 27), .ref (h 28), .ref (h 29), .ref (h 30), .ref (h 31), .int 0, .int 0, .ref (h 32), .ref (h 33), .ref (h 34), .ref (h 35), .ref (h 36), .ref (h 37)])), ((h 0), .inl (cy 1, 1720, .inl (fun _ => 0))), ((h 2), .inl (cy 0, 2, .inl (fun _ => 0))), ((h 3), .inl (cy 0, 2, .inl (fun _ => 0))), ((h 4), .inl (cy 0, 2, .inl (fun _ => 0))), ((h 5), .inl (cy 0, 2, .inl (f 0))), ((h 12), .inl (cy 2, 2, .inl (f 1))), ((h 7), .inl (cy 0, 1200, .inl (fun _ => 0))), ((h 8), .inl (cy 0, 1200, .inl (fun _ => 0))), ((h 20), .inl (cy 2, 8, .inl (fun _ => 0))), ((h 21), .inl (cy 0, 8, .inl (fun _ => 0))), ((h 32), .inl (cy 0, 3, .inl f_4)), ((h 33), .inl (cy 0, 120, .inl (fun _ => 0))), ((h 34), .inl (cy 0, 120, .inl (fun _ => 0))), ((h 35), .inl (cy 0, 24, .inl (fun _ => 0))), ((h 36), .inl (cy 2, 24, .inl (fun _ => 0))), ((h 37), .inl (cy 2, 3, .inl f_5))] := hD
  refine lv_aload_n hx hb dX12_image_60 rfl (lv_at hl 1 rfl) ?_
  refine va_get (ci := 12) (v := .ref (h 34)) (C := RX12) (T := TX12) (N := 58) hx hb ht iX12 hown hK hP 0 rfl rfl 54 (by decide) (ht _ k_306) (fun _ h9 => h9) rfl dX12_image_61 ?_
  refine lv_bipush (v := 40) hx hb dX12_image_64 (by decide) ?_
  refine lv_iload_n hx hb dX12_image_66 rfl (lv_at hl 2 rfl) ?_
  refine lv_imul hx hb dX12_image_67 ?_
  refine ow_top 0 (by decide +kernel) ?_
  refine lv_iload_n hx hb dX12_image_68 rfl (lv_at hl 0 rfl) ?_
  refine lv_iadd hx hb dX12_image_69 ?_
  refine ow_top 30 (by decide +kernel) ?_
  refine lv_aload_n hx hb dX12_image_70 rfl (lv_at hl 1 rfl) ?_
  refine va_get (ci := 12) (v := .ref (h 8)) (C := RX12) (T := TX12) (N := 58) hx hb ht iX12 hown hK hP 0 rfl rfl 17 (by decide) (ht _ k_281) (fun _ h9 => h9) rfl dX12_image_71 ?_
  refine lv_sipush (v := 1120) hx hb dX12_image_74 (by decide) ?_
  refine lv_iload_n hx hb dX12_image_77 rfl (lv_at hl 0 rfl) ?_
  refine lv_iadd hx hb dX12_image_78 ?_
  refine ow_top 1150 (by decide +kernel) ?_
  refine va_iald hx hb hK hP 8 0 rfl rfl (in_lit (by decide +kernel)) dX12_image_79 ?_
  refine ow_top 0 rfl ?_
  refine ow_iastS hx hb hK hP hD hS 13 rfl (in_lit (by decide +kernel)) dX12_image_80 ?_
  clear hP hD hS
  try clear H locs
  intro H locs hP hD hS
  replace hP : va_P G vwCl [(mo, .inr (12, [.ref (h 0), .ref (h 1), .int 0, .int 0, .int 0, .int (-1), .int 0, .int 0, .int 0, .int 0, .long 0, .ref (h 2), .ref (h 3), .ref (h 4), .ref (h 5), .ref (h 6), .ref (h 7), .ref (h 8), .ref (h 9), .ref (h 10), .ref (h 11), .ref (h 12), .ref (h 13), .ref (h 14), .ref (h 15), .ref (h 16), .ref (h 17), .ref (h 18), .ref (h 19), .int 0, .int 0, .int 0, .int 0, .int 0, .int 0, .ref (h 20), .ref (h 21), .int 0, .ref (h 22), .ref (h 23), .ref (h 24), .ref (h 25), .ref (h 26), .int 0, .int 0, .ref (h 27), .ref (h 28), .ref (h 29), .ref (h 30), .ref (h 31), .int 0, .int 0, .ref (h 32), .ref (h 33), .ref (h 34), .ref (h 35), .ref (h 36), .ref (h 37)])), ((h 0), .inl (cy 1, 1720, .inl (fun _ => 0))), ((h 2), .inl (cy 0, 2, .inl (fun _ => 0))), ((h 3), .inl (cy 0, 2, .inl (fun _ => 0))), ((h 4), .inl (cy 0, 2, .inl (fun _ => 0))), ((h 5), .inl (cy 0, 2, .inl (f 0))), ((h 12), .inl (cy 2, 2, .inl (f 1))), ((h 7), .inl (cy 0, 1200, .inl (fun _ => 0))), ((h 8), .inl (cy 0, 1200, .inl (fun _ => 0))), ((h 20), .inl (cy 2, 8, .inl (fun _ => 0))), ((h 21), .inl (cy 0, 8, .inl (fun _ => 0))), ((h 32), .inl (cy 0, 3, .inl f_4)), ((h 33), .inl (cy 0, 120, .inl (fun _ => 0))), ((h 34), .inl (cy 0, 120, .inl (fun _ => 0))), ((h 35), .inl (cy 0, 24, .inl (fun _ => 0))), ((h 36), .inl (cy 2, 24, .inl (fun _ => 0))), ((h 37), .inl (cy 2, 3, .inl f_5))] H := hP
  replace hD : va_D A [(mo, .inr (12, [.ref (h 0), .ref (h 1), .int 0, .int 0, .int 0, .int (-1), .int 0, .int 0, .int 0, .int 0, .long 0, .ref (h 2), .ref (h 3), .ref (h 4), .ref (h 5), .ref (h 6), .ref (h 7), .ref (h 8), .ref (h 9), .ref (h 10), .ref (h 11), .ref (h 12), .ref (h 13), .ref (h 14), .ref (h 15), .ref (h 16), .ref (h 17), .ref (h 18), .ref (h 19), .int 0, .int 0, .int 0, .int 0, .int 0, .int 0, .ref (h 20), .ref (h 21), .int 0, .ref (h 22), .ref (h 23), .ref (h 24), .ref (h 25), .ref (h 26), .int 0, .int 0, .ref (h 27), .ref (h 28), .ref (h 29), .ref (h 30), .ref (h 31), .int 0, .int 0, .ref (h 32), .ref (h 33), .ref (h 34), .ref (h 35), .ref (h 36), .ref (h 37)])), ((h 0), .inl (cy 1, 1720, .inl (fun _ => 0))), ((h 2), .inl (cy 0, 2, .inl (fun _ => 0))), ((h 3), .inl (cy 0, 2, .inl (fun _ => 0))), ((h 4), .inl (cy 0, 2, .inl (fun _ => 0))), ((h 5), .inl (cy 0, 2, .inl (f 0))), ((h 12), .inl (cy 2, 2, .inl (f 1))), ((h 7), .inl (cy 0, 1200, .inl (fun _ => 0))), ((h 8), .inl (cy 0, 1200, .inl (fun _ => 0))), ((h 20), .inl (cy 2, 8, .inl (fun _ => 0))), ((h 21), .inl (cy 0, 8, .inl (fun _ => 0))), ((h 32), .inl (cy 0, 3, .inl f_4)), ((h 33), .inl (cy 0, 120, .inl (fun _ => 0))), ((h 34), .inl (cy 0, 120, .inl (fun _ => 0))), ((h 35), .inl (cy 0, 24, .inl (fun _ => 0))), ((h 36), .inl (cy 2, 24, .inl (fun _ => 0))), ((h 37), .inl (cy 2, 3, .inl f_5))] := hD
  refine lv_iinc (v := 31) (lv' := [(2, .int 31), (0, .ref mo), (1, .int 0)]) hx hb dX12_image_81 hl (k := 0) rfl (by decide) (by decide) rfl ?_
  clear hl
  try clear ls
  intro ls hl
  refine lv_goto (tgt := 33) hx hb dX12_image_84 (by decide) ?_
  refine lv_iload_n hx hb dX12_image_33 rfl (lv_at hl 0 rfl) ?_
  refine lv_bipush (v := 40) hx hb dX12_image_34 (by decide) ?_
  refine lv_icmp_ge (tgt := 87) hx hb dX12_image_36 (by decide) (fun c9 => absurd c9 (by decide)) (fun _ => ?_)
  refine lv_aload_n hx hb dX12_image_39 rfl (lv_at hl 1 rfl) ?_
  refine va_get (ci := 12) (v := .ref (h 33)) (C := RX12) (T := TX12) (N := 58) hx hb ht iX12 hown hK hP 0 rfl rfl 53 (by decide) (ht _ k_305) (fun _ h9 => h9) rfl dX12_image_40 ?_
  refine lv_bipush (v := 40) hx hb dX12_image_43 (by decide) ?_
  refine lv_iload_n hx hb dX12_image_45 rfl (lv_at hl 2 rfl) ?_
  refine lv_imul hx hb dX12_image_46 ?_
  refine ow_top 0 (by decide +kernel) ?_
  refine lv_iload_n hx hb dX12_image_47 rfl (lv_at hl 0 rfl) ?_
  refine lv_iadd hx hb dX12_image_48 ?_
  refine ow_top 31 (by decide +kernel) ?_
  refine lv_aload_n hx hb dX12_image_49 rfl (lv_at hl 1 rfl) ?_
  refine va_get (ci := 12) (v := .ref (h 7)) (C := RX12) (T := TX12) (N := 58) hx hb ht iX12 hown hK hP 0 rfl rfl 16 (by decide) (ht _ k_280) (fun _ h9 => h9) rfl dX12_image_50 ?_
  refine lv_sipush (v := 1120) hx hb dX12_image_53 (by decide) ?_
  refine lv_iload_n hx hb dX12_image_56 rfl (lv_at hl 0 rfl) ?_
  refine lv_iadd hx hb dX12_image_57 ?_
  refine ow_top 1151 (by decide +kernel) ?_
  refine va_iald hx hb hK hP 7 0 rfl rfl (in_lit (by decide +kernel)) dX12_image_58 ?_
  refine ow_top 0 rfl ?_
  refine ow_iastS hx hb hK hP hD hS 12 rfl (in_lit (by decide +kernel)) dX12_image_59 ?_
  clear hP hD hS
  try clear H locs
  intro H locs hP hD hS
  replace hP : va_P G vwCl [(mo, .inr (12, [.ref (h 0), .ref (h 1), .int 0, .int 0, .int 0, .int (-1), .int 0, .int 0, .int 0, .int 0, .long 0, .ref (h 2), .ref (h 3), .ref (h 4), .ref (h 5), .ref (h 6), .ref (h 7), .ref (h 8), .ref (h 9), .ref (h 10), .ref (h 11), .ref (h 12), .ref (h 13), .ref (h 14), .ref (h 15), .ref (h 16), .ref (h 17), .ref (h 18), .ref (h 19), .int 0, .int 0, .int 0, .int 0, .int 0, .int 0, .ref (h 20), .ref (h 21), .int 0, .ref (h 22), .ref (h 23), .ref (h 24), .ref (h 25), .ref (h 26), .int 0, .int 0, .ref (h 27), .ref (h 28), .ref (h 29), .ref (h 30), .ref (h 31), .int 0, .int 0, .ref (h 32), .ref (h 33), .ref (h 34), .ref (h 35), .ref (h 36), .ref (h 37)])), ((h 0), .inl (cy 1, 1720, .inl (fun _ => 0))), ((h 2), .inl (cy 0, 2, .inl (fun _ => 0))), ((h 3), .inl (cy 0, 2, .inl (fun _ => 0))), ((h 4), .inl (cy 0, 2, .inl (fun _ => 0))), ((h 5), .inl (cy 0, 2, .inl (f 0))), ((h 12), .inl (cy 2, 2, .inl (f 1))), ((h 7), .inl (cy 0, 1200, .inl (fun _ => 0))), ((h 8), .inl (cy 0, 1200, .inl (fun _ => 0))), ((h 20), .inl (cy 2, 8, .inl (fun _ => 0))), ((h 21), .inl (cy 0, 8, .inl (fun _ => 0))), ((h 32), .inl (cy 0, 3, .inl f_4)), ((h 33), .inl (cy 0, 120, .inl (fun _ => 0))), ((h 34), .inl (cy 0, 120, .inl (fun _ => 0))), ((h 35), .inl (cy 0, 24, .inl (fun _ => 0))), ((h 36), .inl (cy 2, 24, .inl (fun _ => 0))), ((h 37), .inl (cy 2, 3, .inl f_5))] H := hP
  replace hD : va_D A [(mo, .inr (12, [.ref (h 0), .ref (h 1), .int 0, .int 0, .int 0, .int (-1), .int 0, .int 0, .int 0, .int 0, .long 0, .ref (h 2), .ref (h 3), .ref (h 4), .ref (h 5), .ref (h 6), .ref (h 7), .ref (h 8), .ref (h 9), .ref (h 10), .ref (h 11), .ref (h 12), .ref (h 13), .ref (h 14), .ref (h 15), .ref (h 16), .ref (h 17), .ref (h 18), .ref (h 19), .int 0, .int 0, .int 0, .int 0, .int 0, .int 0, .ref (h 20), .ref (h 21), .int 0, .ref (h 22), .ref (h 23), .ref (h 24), .ref (h 25), .ref (h 26), .int 0, .int 0, .ref (h 27), .ref (h 28), .ref (h 29), .ref (h 30), .ref (h 31), .int 0, .int 0, .ref (h 32), .ref (h 33), .ref (h 34), .ref (h 35), .ref (h 36), .ref (h 37)])), ((h 0), .inl (cy 1, 1720, .inl (fun _ => 0))), ((h 2), .inl (cy 0, 2, .inl (fun _ => 0))), ((h 3), .inl (cy 0, 2, .inl (fun _ => 0))), ((h 4), .inl (cy 0, 2, .inl (fun _ => 0))), ((h 5), .inl (cy 0, 2, .inl (f 0))), ((h 12), .inl (cy 2, 2, .inl (f 1))), ((h 7), .inl (cy 0, 1200, .inl (fun _ => 0))), ((h 8), .inl (cy 0, 1200, .inl (fun _ => 0))), ((h 20), .inl (cy 2, 8, .inl (fun _ => 0))), ((h 21), .inl (cy 0, 8, .inl (fun _ => 0))), ((h 32), .inl (cy 0, 3, .inl f_4)), ((h 33), .inl (cy 0, 120, .inl (fun _ => 0))), ((h 34), .inl (cy 0, 120, .inl (fun _ => 0))), ((h 35), .inl (cy 0, 24, .inl (fun _ => 0))), ((h 36), .inl (cy 2, 24, .inl (fun _ => 0))), ((h 37), .inl (cy 2, 3, .inl f_5))] := hD
  refine lv_aload_n hx hb dX12_image_60 rfl (lv_at hl 1 rfl) ?_
  refine va_get (ci := 12) (v := .ref (h 34)) (C := RX12) (T := TX12) (N := 58) hx hb ht iX12 hown hK hP 0 rfl rfl 54 (by decide) (ht _ k_306) (fun _ h9 => h9) rfl dX12_image_61 ?_
  refine lv_bipush (v := 40) hx hb dX12_image_64 (by decide) ?_
  refine lv_iload_n hx hb dX12_image_66 rfl (lv_at hl 2 rfl) ?_
  refine lv_imul hx hb dX12_image_67 ?_
  refine ow_top 0 (by decide +kernel) ?_
  refine lv_iload_n hx hb dX12_image_68 rfl (lv_at hl 0 rfl) ?_
  refine lv_iadd hx hb dX12_image_69 ?_
  refine ow_top 31 (by decide +kernel) ?_
  refine lv_aload_n hx hb dX12_image_70 rfl (lv_at hl 1 rfl) ?_
  refine va_get (ci := 12) (v := .ref (h 8)) (C := RX12) (T := TX12) (N := 58) hx hb ht iX12 hown hK hP 0 rfl rfl 17 (by decide) (ht _ k_281) (fun _ h9 => h9) rfl dX12_image_71 ?_
  refine lv_sipush (v := 1120) hx hb dX12_image_74 (by decide) ?_
  refine lv_iload_n hx hb dX12_image_77 rfl (lv_at hl 0 rfl) ?_
  refine lv_iadd hx hb dX12_image_78 ?_
  refine ow_top 1151 (by decide +kernel) ?_
  refine va_iald hx hb hK hP 8 0 rfl rfl (in_lit (by decide +kernel)) dX12_image_79 ?_
  refine ow_top 0 rfl ?_
  refine ow_iastS hx hb hK hP hD hS 13 rfl (in_lit (by decide +kernel)) dX12_image_80 ?_
  clear hP hD hS
  try clear H locs
  intro H locs hP hD hS
  replace hP : va_P G vwCl [(mo, .inr (12, [.ref (h 0), .ref (h 1), .int 0, .int 0, .int 0, .int (-1), .int 0, .int 0, .int 0, .int 0, .long 0, .ref (h 2), .ref (h 3), .ref (h 4), .ref (h 5), .ref (h 6), .ref (h 7), .ref (h 8), .ref (h 9), .ref (h 10), .ref (h 11), .ref (h 12), .ref (h 13), .ref (h 14), .ref (h 15), .ref (h 16), .ref (h 17), .ref (h 18), .ref (h 19), .int 0, .int 0, .int 0, .int 0, .int 0, .int 0, .ref (h 20), .ref (h 21), .int 0, .ref (h 22), .ref (h 23), .ref (h 24), .ref (h 25), .ref (h 26), .int 0, .int 0, .ref (h 27), .ref (h 28), .ref (h 29), .ref (h 30), .ref (h 31), .int 0, .int 0, .ref (h 32), .ref (h 33), .ref (h 34), .ref (h 35), .ref (h 36), .ref (h 37)])), ((h 0), .inl (cy 1, 1720, .inl (fun _ => 0))), ((h 2), .inl (cy 0, 2, .inl (fun _ => 0))), ((h 3), .inl (cy 0, 2, .inl (fun _ => 0))), ((h 4), .inl (cy 0, 2, .inl (fun _ => 0))), ((h 5), .inl (cy 0, 2, .inl (f 0))), ((h 12), .inl (cy 2, 2, .inl (f 1))), ((h 7), .inl (cy 0, 1200, .inl (fun _ => 0))), ((h 8), .inl (cy 0, 1200, .inl (fun _ => 0))), ((h 20), .inl (cy 2, 8, .inl (fun _ => 0))), ((h 21), .inl (cy 0, 8, .inl (fun _ => 0))), ((h 32), .inl (cy 0, 3, .inl f_4)), ((h 33), .inl (cy 0, 120, .inl (fun _ => 0))), ((h 34), .inl (cy 0, 120, .inl (fun _ => 0))), ((h 35), .inl (cy 0, 24, .inl (fun _ => 0))), ((h 36), .inl (cy 2, 24, .inl (fun _ => 0))), ((h 37), .inl (cy 2, 3, .inl f_5))] H := hP
  replace hD : va_D A [(mo, .inr (12, [.ref (h 0), .ref (h 1), .int 0, .int 0, .int 0, .int (-1), .int 0, .int 0, .int 0, .int 0, .long 0, .ref (h 2), .ref (h 3), .ref (h 4), .ref (h 5), .ref (h 6), .ref (h 7), .ref (h 8), .ref (h 9), .ref (h 10), .ref (h 11), .ref (h 12), .ref (h 13), .ref (h 14), .ref (h 15), .ref (h 16), .ref (h 17), .ref (h 18), .ref (h 19), .int 0, .int 0, .int 0, .int 0, .int 0, .int 0, .ref (h 20), .ref (h 21), .int 0, .ref (h 22), .ref (h 23), .ref (h 24), .ref (h 25), .ref (h 26), .int 0, .int 0, .ref (h 27), .ref (h 28), .ref (h 29), .ref (h 30), .ref (h 31), .int 0, .int 0, .ref (h 32), .ref (h 33), .ref (h 34), .ref (h 35), .ref (h 36), .ref (h 37)])), ((h 0), .inl (cy 1, 1720, .inl (fun _ => 0))), ((h 2), .inl (cy 0, 2, .inl (fun _ => 0))), ((h 3), .inl (cy 0, 2, .inl (fun _ => 0))), ((h 4), .inl (cy 0, 2, .inl (fun _ => 0))), ((h 5), .inl (cy 0, 2, .inl (f 0))), ((h 12), .inl (cy 2, 2, .inl (f 1))), ((h 7), .inl (cy 0, 1200, .inl (fun _ => 0))), ((h 8), .inl (cy 0, 1200, .inl (fun _ => 0))), ((h 20), .inl (cy 2, 8, .inl (fun _ => 0))), ((h 21), .inl (cy 0, 8, .inl (fun _ => 0))), ((h 32), .inl (cy 0, 3, .inl f_4)), ((h 33), .inl (cy 0, 120, .inl (fun _ => 0))), ((h 34), .inl (cy 0, 120, .inl (fun _ => 0))), ((h 35), .inl (cy 0, 24, .inl (fun _ => 0))), ((h 36), .inl (cy 2, 24, .inl (fun _ => 0))), ((h 37), .inl (cy 2, 3, .inl f_5))] := hD
  refine lv_iinc (v := 32) (lv' := [(2, .int 32), (0, .ref mo), (1, .int 0)]) hx hb dX12_image_81 hl (k := 0) rfl (by decide) (by decide) rfl ?_
  clear hl
  try clear ls
  intro ls hl
  refine lv_goto (tgt := 33) hx hb dX12_image_84 (by decide) ?_
  refine lv_iload_n hx hb dX12_image_33 rfl (lv_at hl 0 rfl) ?_
  refine lv_bipush (v := 40) hx hb dX12_image_34 (by decide) ?_
  refine lv_icmp_ge (tgt := 87) hx hb dX12_image_36 (by decide) (fun c9 => absurd c9 (by decide)) (fun _ => ?_)
  refine lv_aload_n hx hb dX12_image_39 rfl (lv_at hl 1 rfl) ?_
  refine va_get (ci := 12) (v := .ref (h 33)) (C := RX12) (T := TX12) (N := 58) hx hb ht iX12 hown hK hP 0 rfl rfl 53 (by decide) (ht _ k_305) (fun _ h9 => h9) rfl dX12_image_40 ?_
  refine lv_bipush (v := 40) hx hb dX12_image_43 (by decide) ?_
  refine lv_iload_n hx hb dX12_image_45 rfl (lv_at hl 2 rfl) ?_
  refine lv_imul hx hb dX12_image_46 ?_
  refine ow_top 0 (by decide +kernel) ?_
  refine lv_iload_n hx hb dX12_image_47 rfl (lv_at hl 0 rfl) ?_
  refine lv_iadd hx hb dX12_image_48 ?_
  refine ow_top 32 (by decide +kernel) ?_
  refine lv_aload_n hx hb dX12_image_49 rfl (lv_at hl 1 rfl) ?_
  refine va_get (ci := 12) (v := .ref (h 7)) (C := RX12) (T := TX12) (N := 58) hx hb ht iX12 hown hK hP 0 rfl rfl 16 (by decide) (ht _ k_280) (fun _ h9 => h9) rfl dX12_image_50 ?_
  refine lv_sipush (v := 1120) hx hb dX12_image_53 (by decide) ?_
  refine lv_iload_n hx hb dX12_image_56 rfl (lv_at hl 0 rfl) ?_
  refine lv_iadd hx hb dX12_image_57 ?_
  refine ow_top 1152 (by decide +kernel) ?_
  refine va_iald hx hb hK hP 7 0 rfl rfl (in_lit (by decide +kernel)) dX12_image_58 ?_
  refine ow_top 0 rfl ?_
  refine ow_iastS hx hb hK hP hD hS 12 rfl (in_lit (by decide +kernel)) dX12_image_59 ?_
  clear hP hD hS
  try clear H locs
  intro H locs hP hD hS
  replace hP : va_P G vwCl [(mo, .inr (12, [.ref (h 0), .ref (h 1), .int 0, .int 0, .int 0, .int (-1), .int 0, .int 0, .int 0, .int 0, .long 0, .ref (h 2), .ref (h 3), .ref (h 4), .ref (h 5), .ref (h 6), .ref (h 7), .ref (h 8), .ref (h 9), .ref (h 10), .ref (h 11), .ref (h 12), .ref (h 13), .ref (h 14), .ref (h 15), .ref (h 16), .ref (h 17), .ref (h 18), .ref (h 19), .int 0, .int 0, .int 0, .int 0, .int 0, .int 0, .ref (h 20), .ref (h 21), .int 0, .ref (h 22), .ref (h 23), .ref (h 24), .ref (h 25), .ref (h 26), .int 0, .int 0, .ref (h 27), .ref (h 28), .ref (h 29), .ref (h 30), .ref (h 31), .int 0, .int 0, .ref (h 32), .ref (h 33), .ref (h 34), .ref (h 35), .ref (h 36), .ref (h 37)])), ((h 0), .inl (cy 1, 1720, .inl (fun _ => 0))), ((h 2), .inl (cy 0, 2, .inl (fun _ => 0))), ((h 3), .inl (cy 0, 2, .inl (fun _ => 0))), ((h 4), .inl (cy 0, 2, .inl (fun _ => 0))), ((h 5), .inl (cy 0, 2, .inl (f 0))), ((h 12), .inl (cy 2, 2, .inl (f 1))), ((h 7), .inl (cy 0, 1200, .inl (fun _ => 0))), ((h 8), .inl (cy 0, 1200, .inl (fun _ => 0))), ((h 20), .inl (cy 2, 8, .inl (fun _ => 0))), ((h 21), .inl (cy 0, 8, .inl (fun _ => 0))), ((h 32), .inl (cy 0, 3, .inl f_4)), ((h 33), .inl (cy 0, 120, .inl (fun _ => 0))), ((h 34), .inl (cy 0, 120, .inl (fun _ => 0))), ((h 35), .inl (cy 0, 24, .inl (fun _ => 0))), ((h 36), .inl (cy 2, 24, .inl (fun _ => 0))), ((h 37), .inl (cy 2, 3, .inl f_5))] H := hP
  replace hD : va_D A [(mo, .inr (12, [.ref (h 0), .ref (h 1), .int 0, .int 0, .int 0, .int (-1), .int 0, .int 0, .int 0, .int 0, .long 0, .ref (h 2), .ref (h 3), .ref (h 4), .ref (h 5), .ref (h 6), .ref (h 7), .ref (h 8), .ref (h 9), .ref (h 10), .ref (h 11), .ref (h 12), .ref (h 13), .ref (h 14), .ref (h 15), .ref (h 16), .ref (h 17), .ref (h 18), .ref (h 19), .int 0, .int 0, .int 0, .int 0, .int 0, .int 0, .ref (h 20), .ref (h 21), .int 0, .ref (h 22), .ref (h 23), .ref (h 24), .ref (h 25), .ref (h 26), .int 0, .int 0, .ref (h 27), .ref (h 28), .ref (h 29), .ref (h 30), .ref (h 31), .int 0, .int 0, .ref (h 32), .ref (h 33), .ref (h 34), .ref (h 35), .ref (h 36), .ref (h 37)])), ((h 0), .inl (cy 1, 1720, .inl (fun _ => 0))), ((h 2), .inl (cy 0, 2, .inl (fun _ => 0))), ((h 3), .inl (cy 0, 2, .inl (fun _ => 0))), ((h 4), .inl (cy 0, 2, .inl (fun _ => 0))), ((h 5), .inl (cy 0, 2, .inl (f 0))), ((h 12), .inl (cy 2, 2, .inl (f 1))), ((h 7), .inl (cy 0, 1200, .inl (fun _ => 0))), ((h 8), .inl (cy 0, 1200, .inl (fun _ => 0))), ((h 20), .inl (cy 2, 8, .inl (fun _ => 0))), ((h 21), .inl (cy 0, 8, .inl (fun _ => 0))), ((h 32), .inl (cy 0, 3, .inl f_4)), ((h 33), .inl (cy 0, 120, .inl (fun _ => 0))), ((h 34), .inl (cy 0, 120, .inl (fun _ => 0))), ((h 35), .inl (cy 0, 24, .inl (fun _ => 0))), ((h 36), .inl (cy 2, 24, .inl (fun _ => 0))), ((h 37), .inl (cy 2, 3, .inl f_5))] := hD
  refine lv_aload_n hx hb dX12_image_60 rfl (lv_at hl 1 rfl) ?_
  refine va_get (ci := 12) (v := .ref (h 34)) (C := RX12) (T := TX12) (N := 58) hx hb ht iX12 hown hK hP 0 rfl rfl 54 (by decide) (ht _ k_306) (fun _ h9 => h9) rfl dX12_image_61 ?_
  refine lv_bipush (v := 40) hx hb dX12_image_64 (by decide) ?_
  refine lv_iload_n hx hb dX12_image_66 rfl (lv_at hl 2 rfl) ?_
  refine lv_imul hx hb dX12_image_67 ?_
  refine ow_top 0 (by decide +kernel) ?_
  refine lv_iload_n hx hb dX12_image_68 rfl (lv_at hl 0 rfl) ?_
  refine lv_iadd hx hb dX12_image_69 ?_
  refine ow_top 32 (by decide +kernel) ?_
  refine lv_aload_n hx hb dX12_image_70 rfl (lv_at hl 1 rfl) ?_
  refine va_get (ci := 12) (v := .ref (h 8)) (C := RX12) (T := TX12) (N := 58) hx hb ht iX12 hown hK hP 0 rfl rfl 17 (by decide) (ht _ k_281) (fun _ h9 => h9) rfl dX12_image_71 ?_
  refine lv_sipush (v := 1120) hx hb dX12_image_74 (by decide) ?_
  refine lv_iload_n hx hb dX12_image_77 rfl (lv_at hl 0 rfl) ?_
  refine lv_iadd hx hb dX12_image_78 ?_
  refine ow_top 1152 (by decide +kernel) ?_
  refine va_iald hx hb hK hP 8 0 rfl rfl (in_lit (by decide +kernel)) dX12_image_79 ?_
  refine ow_top 0 rfl ?_
  refine ow_iastS hx hb hK hP hD hS 13 rfl (in_lit (by decide +kernel)) dX12_image_80 ?_
  clear hP hD hS
  try clear H locs
  intro H locs hP hD hS
  replace hP : va_P G vwCl [(mo, .inr (12, [.ref (h 0), .ref (h 1), .int 0, .int 0, .int 0, .int (-1), .int 0, .int 0, .int 0, .int 0, .long 0, .ref (h 2), .ref (h 3), .ref (h 4), .ref (h 5), .ref (h 6), .ref (h 7), .ref (h 8), .ref (h 9), .ref (h 10), .ref (h 11), .ref (h 12), .ref (h 13), .ref (h 14), .ref (h 15), .ref (h 16), .ref (h 17), .ref (h 18), .ref (h 19), .int 0, .int 0, .int 0, .int 0, .int 0, .int 0, .ref (h 20), .ref (h 21), .int 0, .ref (h 22), .ref (h 23), .ref (h 24), .ref (h 25), .ref (h 26), .int 0, .int 0, .ref (h 27), .ref (h 28), .ref (h 29), .ref (h 30), .ref (h 31), .int 0, .int 0, .ref (h 32), .ref (h 33), .ref (h 34), .ref (h 35), .ref (h 36), .ref (h 37)])), ((h 0), .inl (cy 1, 1720, .inl (fun _ => 0))), ((h 2), .inl (cy 0, 2, .inl (fun _ => 0))), ((h 3), .inl (cy 0, 2, .inl (fun _ => 0))), ((h 4), .inl (cy 0, 2, .inl (fun _ => 0))), ((h 5), .inl (cy 0, 2, .inl (f 0))), ((h 12), .inl (cy 2, 2, .inl (f 1))), ((h 7), .inl (cy 0, 1200, .inl (fun _ => 0))), ((h 8), .inl (cy 0, 1200, .inl (fun _ => 0))), ((h 20), .inl (cy 2, 8, .inl (fun _ => 0))), ((h 21), .inl (cy 0, 8, .inl (fun _ => 0))), ((h 32), .inl (cy 0, 3, .inl f_4)), ((h 33), .inl (cy 0, 120, .inl (fun _ => 0))), ((h 34), .inl (cy 0, 120, .inl (fun _ => 0))), ((h 35), .inl (cy 0, 24, .inl (fun _ => 0))), ((h 36), .inl (cy 2, 24, .inl (fun _ => 0))), ((h 37), .inl (cy 2, 3, .inl f_5))] H := hP
  replace hD : va_D A [(mo, .inr (12, [.ref (h 0), .ref (h 1), .int 0, .int 0, .int 0, .int (-1), .int 0, .int 0, .int 0, .int 0, .long 0, .ref (h 2), .ref (h 3), .ref (h 4), .ref (h 5), .ref (h 6), .ref (h 7), .ref (h 8), .ref (h 9), .ref (h 10), .ref (h 11), .ref (h 12), .ref (h 13), .ref (h 14), .ref (h 15), .ref (h 16), .ref (h 17), .ref (h 18), .ref (h 19), .int 0, .int 0, .int 0, .int 0, .int 0, .int 0, .ref (h 20), .ref (h 21), .int 0, .ref (h 22), .ref (h 23), .ref (h 24), .ref (h 25), .ref (h 26), .int 0, .int 0, .ref (h 27), .ref (h 28), .ref (h 29), .ref (h 30), .ref (h 31), .int 0, .int 0, .ref (h 32), .ref (h 33), .ref (h 34), .ref (h 35), .ref (h 36), .ref (h 37)])), ((h 0), .inl (cy 1, 1720, .inl (fun _ => 0))), ((h 2), .inl (cy 0, 2, .inl (fun _ => 0))), ((h 3), .inl (cy 0, 2, .inl (fun _ => 0))), ((h 4), .inl (cy 0, 2, .inl (fun _ => 0))), ((h 5), .inl (cy 0, 2, .inl (f 0))), ((h 12), .inl (cy 2, 2, .inl (f 1))), ((h 7), .inl (cy 0, 1200, .inl (fun _ => 0))), ((h 8), .inl (cy 0, 1200, .inl (fun _ => 0))), ((h 20), .inl (cy 2, 8, .inl (fun _ => 0))), ((h 21), .inl (cy 0, 8, .inl (fun _ => 0))), ((h 32), .inl (cy 0, 3, .inl f_4)), ((h 33), .inl (cy 0, 120, .inl (fun _ => 0))), ((h 34), .inl (cy 0, 120, .inl (fun _ => 0))), ((h 35), .inl (cy 0, 24, .inl (fun _ => 0))), ((h 36), .inl (cy 2, 24, .inl (fun _ => 0))), ((h 37), .inl (cy 2, 3, .inl f_5))] := hD
  refine lv_iinc (v := 33) (lv' := [(2, .int 33), (0, .ref mo), (1, .int 0)]) hx hb dX12_image_81 hl (k := 0) rfl (by decide) (by decide) rfl ?_
  clear hl
  try clear ls
  intro ls hl
  refine lv_goto (tgt := 33) hx hb dX12_image_84 (by decide) ?_
  refine lv_iload_n hx hb dX12_image_33 rfl (lv_at hl 0 rfl) ?_
  refine lv_bipush (v := 40) hx hb dX12_image_34 (by decide) ?_
  refine lv_icmp_ge (tgt := 87) hx hb dX12_image_36 (by decide) (fun c9 => absurd c9 (by decide)) (fun _ => ?_)
  refine lv_aload_n hx hb dX12_image_39 rfl (lv_at hl 1 rfl) ?_
  refine va_get (ci := 12) (v := .ref (h 33)) (C := RX12) (T := TX12) (N := 58) hx hb ht iX12 hown hK hP 0 rfl rfl 53 (by decide) (ht _ k_305) (fun _ h9 => h9) rfl dX12_image_40 ?_
  refine lv_bipush (v := 40) hx hb dX12_image_43 (by decide) ?_
  refine lv_iload_n hx hb dX12_image_45 rfl (lv_at hl 2 rfl) ?_
  refine lv_imul hx hb dX12_image_46 ?_
  refine ow_top 0 (by decide +kernel) ?_
  refine lv_iload_n hx hb dX12_image_47 rfl (lv_at hl 0 rfl) ?_
  refine lv_iadd hx hb dX12_image_48 ?_
  refine ow_top 33 (by decide +kernel) ?_
  refine lv_aload_n hx hb dX12_image_49 rfl (lv_at hl 1 rfl) ?_
  refine va_get (ci := 12) (v := .ref (h 7)) (C := RX12) (T := TX12) (N := 58) hx hb ht iX12 hown hK hP 0 rfl rfl 16 (by decide) (ht _ k_280) (fun _ h9 => h9) rfl dX12_image_50 ?_
  refine lv_sipush (v := 1120) hx hb dX12_image_53 (by decide) ?_
  refine lv_iload_n hx hb dX12_image_56 rfl (lv_at hl 0 rfl) ?_
  refine lv_iadd hx hb dX12_image_57 ?_
  refine ow_top 1153 (by decide +kernel) ?_
  refine va_iald hx hb hK hP 7 0 rfl rfl (in_lit (by decide +kernel)) dX12_image_58 ?_
  refine ow_top 0 rfl ?_
  refine ow_iastS hx hb hK hP hD hS 12 rfl (in_lit (by decide +kernel)) dX12_image_59 ?_
  clear hP hD hS
  try clear H locs
  intro H locs hP hD hS
  replace hP : va_P G vwCl [(mo, .inr (12, [.ref (h 0), .ref (h 1), .int 0, .int 0, .int 0, .int (-1), .int 0, .int 0, .int 0, .int 0, .long 0, .ref (h 2), .ref (h 3), .ref (h 4), .ref (h 5), .ref (h 6), .ref (h 7), .ref (h 8), .ref (h 9), .ref (h 10), .ref (h 11), .ref (h 12), .ref (h 13), .ref (h 14), .ref (h 15), .ref (h 16), .ref (h 17), .ref (h 18), .ref (h 19), .int 0, .int 0, .int 0, .int 0, .int 0, .int 0, .ref (h 20), .ref (h 21), .int 0, .ref (h 22), .ref (h 23), .ref (h 24), .ref (h 25), .ref (h 26), .int 0, .int 0, .ref (h 27), .ref (h 28), .ref (h 29), .ref (h 30), .ref (h 31), .int 0, .int 0, .ref (h 32), .ref (h 33), .ref (h 34), .ref (h 35), .ref (h 36), .ref (h 37)])), ((h 0), .inl (cy 1, 1720, .inl (fun _ => 0))), ((h 2), .inl (cy 0, 2, .inl (fun _ => 0))), ((h 3), .inl (cy 0, 2, .inl (fun _ => 0))), ((h 4), .inl (cy 0, 2, .inl (fun _ => 0))), ((h 5), .inl (cy 0, 2, .inl (f 0))), ((h 12), .inl (cy 2, 2, .inl (f 1))), ((h 7), .inl (cy 0, 1200, .inl (fun _ => 0))), ((h 8), .inl (cy 0, 1200, .inl (fun _ => 0))), ((h 20), .inl (cy 2, 8, .inl (fun _ => 0))), ((h 21), .inl (cy 0, 8, .inl (fun _ => 0))), ((h 32), .inl (cy 0, 3, .inl f_4)), ((h 33), .inl (cy 0, 120, .inl (fun _ => 0))), ((h 34), .inl (cy 0, 120, .inl (fun _ => 0))), ((h 35), .inl (cy 0, 24, .inl (fun _ => 0))), ((h 36), .inl (cy 2, 24, .inl (fun _ => 0))), ((h 37), .inl (cy 2, 3, .inl f_5))] H := hP
  replace hD : va_D A [(mo, .inr (12, [.ref (h 0), .ref (h 1), .int 0, .int 0, .int 0, .int (-1), .int 0, .int 0, .int 0, .int 0, .long 0, .ref (h 2), .ref (h 3), .ref (h 4), .ref (h 5), .ref (h 6), .ref (h 7), .ref (h 8), .ref (h 9), .ref (h 10), .ref (h 11), .ref (h 12), .ref (h 13), .ref (h 14), .ref (h 15), .ref (h 16), .ref (h 17), .ref (h 18), .ref (h 19), .int 0, .int 0, .int 0, .int 0, .int 0, .int 0, .ref (h 20), .ref (h 21), .int 0, .ref (h 22), .ref (h 23), .ref (h 24), .ref (h 25), .ref (h 26), .int 0, .int 0, .ref (h 27), .ref (h 28), .ref (h 29), .ref (h 30), .ref (h 31), .int 0, .int 0, .ref (h 32), .ref (h 33), .ref (h 34), .ref (h 35), .ref (h 36), .ref (h 37)])), ((h 0), .inl (cy 1, 1720, .inl (fun _ => 0))), ((h 2), .inl (cy 0, 2, .inl (fun _ => 0))), ((h 3), .inl (cy 0, 2, .inl (fun _ => 0))), ((h 4), .inl (cy 0, 2, .inl (fun _ => 0))), ((h 5), .inl (cy 0, 2, .inl (f 0))), ((h 12), .inl (cy 2, 2, .inl (f 1))), ((h 7), .inl (cy 0, 1200, .inl (fun _ => 0))), ((h 8), .inl (cy 0, 1200, .inl (fun _ => 0))), ((h 20), .inl (cy 2, 8, .inl (fun _ => 0))), ((h 21), .inl (cy 0, 8, .inl (fun _ => 0))), ((h 32), .inl (cy 0, 3, .inl f_4)), ((h 33), .inl (cy 0, 120, .inl (fun _ => 0))), ((h 34), .inl (cy 0, 120, .inl (fun _ => 0))), ((h 35), .inl (cy 0, 24, .inl (fun _ => 0))), ((h 36), .inl (cy 2, 24, .inl (fun _ => 0))), ((h 37), .inl (cy 2, 3, .inl f_5))] := hD
  refine lv_aload_n hx hb dX12_image_60 rfl (lv_at hl 1 rfl) ?_
  refine va_get (ci := 12) (v := .ref (h 34)) (C := RX12) (T := TX12) (N := 58) hx hb ht iX12 hown hK hP 0 rfl rfl 54 (by decide) (ht _ k_306) (fun _ h9 => h9) rfl dX12_image_61 ?_
  refine lv_bipush (v := 40) hx hb dX12_image_64 (by decide) ?_
  refine lv_iload_n hx hb dX12_image_66 rfl (lv_at hl 2 rfl) ?_
  refine lv_imul hx hb dX12_image_67 ?_
  refine ow_top 0 (by decide +kernel) ?_
  refine lv_iload_n hx hb dX12_image_68 rfl (lv_at hl 0 rfl) ?_
  refine lv_iadd hx hb dX12_image_69 ?_
  refine ow_top 33 (by decide +kernel) ?_
  refine lv_aload_n hx hb dX12_image_70 rfl (lv_at hl 1 rfl) ?_
  refine va_get (ci := 12) (v := .ref (h 8)) (C := RX12) (T := TX12) (N := 58) hx hb ht iX12 hown hK hP 0 rfl rfl 17 (by decide) (ht _ k_281) (fun _ h9 => h9) rfl dX12_image_71 ?_
  refine lv_sipush (v := 1120) hx hb dX12_image_74 (by decide) ?_
  refine lv_iload_n hx hb dX12_image_77 rfl (lv_at hl 0 rfl) ?_
  refine lv_iadd hx hb dX12_image_78 ?_
  refine ow_top 1153 (by decide +kernel) ?_
  refine va_iald hx hb hK hP 8 0 rfl rfl (in_lit (by decide +kernel)) dX12_image_79 ?_
  refine ow_top 0 rfl ?_
  refine ow_iastS hx hb hK hP hD hS 13 rfl (in_lit (by decide +kernel)) dX12_image_80 ?_
  clear hP hD hS
  try clear H locs
  intro H locs hP hD hS
  replace hP : va_P G vwCl [(mo, .inr (12, [.ref (h 0), .ref (h 1), .int 0, .int 0, .int 0, .int (-1), .int 0, .int 0, .int 0, .int 0, .long 0, .ref (h 2), .ref (h 3), .ref (h 4), .ref (h 5), .ref (h 6), .ref (h 7), .ref (h 8), .ref (h 9), .ref (h 10), .ref (h 11), .ref (h 12), .ref (h 13), .ref (h 14), .ref (h 15), .ref (h 16), .ref (h 17), .ref (h 18), .ref (h 19), .int 0, .int 0, .int 0, .int 0, .int 0, .int 0, .ref (h 20), .ref (h 21), .int 0, .ref (h 22), .ref (h 23), .ref (h 24), .ref (h 25), .ref (h 26), .int 0, .int 0, .ref (h 27), .ref (h 28), .ref (h 29), .ref (h 30), .ref (h 31), .int 0, .int 0, .ref (h 32), .ref (h 33), .ref (h 34), .ref (h 35), .ref (h 36), .ref (h 37)])), ((h 0), .inl (cy 1, 1720, .inl (fun _ => 0))), ((h 2), .inl (cy 0, 2, .inl (fun _ => 0))), ((h 3), .inl (cy 0, 2, .inl (fun _ => 0))), ((h 4), .inl (cy 0, 2, .inl (fun _ => 0))), ((h 5), .inl (cy 0, 2, .inl (f 0))), ((h 12), .inl (cy 2, 2, .inl (f 1))), ((h 7), .inl (cy 0, 1200, .inl (fun _ => 0))), ((h 8), .inl (cy 0, 1200, .inl (fun _ => 0))), ((h 20), .inl (cy 2, 8, .inl (fun _ => 0))), ((h 21), .inl (cy 0, 8, .inl (fun _ => 0))), ((h 32), .inl (cy 0, 3, .inl f_4)), ((h 33), .inl (cy 0, 120, .inl (fun _ => 0))), ((h 34), .inl (cy 0, 120, .inl (fun _ => 0))), ((h 35), .inl (cy 0, 24, .inl (fun _ => 0))), ((h 36), .inl (cy 2, 24, .inl (fun _ => 0))), ((h 37), .inl (cy 2, 3, .inl f_5))] H := hP
  replace hD : va_D A [(mo, .inr (12, [.ref (h 0), .ref (h 1), .int 0, .int 0, .int 0, .int (-1), .int 0, .int 0, .int 0, .int 0, .long 0, .ref (h 2), .ref (h 3), .ref (h 4), .ref (h 5), .ref (h 6), .ref (h 7), .ref (h 8), .ref (h 9), .ref (h 10), .ref (h 11), .ref (h 12), .ref (h 13), .ref (h 14), .ref (h 15), .ref (h 16), .ref (h 17), .ref (h 18), .ref (h 19), .int 0, .int 0, .int 0, .int 0, .int 0, .int 0, .ref (h 20), .ref (h 21), .int 0, .ref (h 22), .ref (h 23), .ref (h 24), .ref (h 25), .ref (h 26), .int 0, .int 0, .ref (h 27), .ref (h 28), .ref (h 29), .ref (h 30), .ref (h 31), .int 0, .int 0, .ref (h 32), .ref (h 33), .ref (h 34), .ref (h 35), .ref (h 36), .ref (h 37)])), ((h 0), .inl (cy 1, 1720, .inl (fun _ => 0))), ((h 2), .inl (cy 0, 2, .inl (fun _ => 0))), ((h 3), .inl (cy 0, 2, .inl (fun _ => 0))), ((h 4), .inl (cy 0, 2, .inl (fun _ => 0))), ((h 5), .inl (cy 0, 2, .inl (f 0))), ((h 12), .inl (cy 2, 2, .inl (f 1))), ((h 7), .inl (cy 0, 1200, .inl (fun _ => 0))), ((h 8), .inl (cy 0, 1200, .inl (fun _ => 0))), ((h 20), .inl (cy 2, 8, .inl (fun _ => 0))), ((h 21), .inl (cy 0, 8, .inl (fun _ => 0))), ((h 32), .inl (cy 0, 3, .inl f_4)), ((h 33), .inl (cy 0, 120, .inl (fun _ => 0))), ((h 34), .inl (cy 0, 120, .inl (fun _ => 0))), ((h 35), .inl (cy 0, 24, .inl (fun _ => 0))), ((h 36), .inl (cy 2, 24, .inl (fun _ => 0))), ((h 37), .inl (cy 2, 3, .inl f_5))] := hD
  refine lv_iinc (v := 34) (lv' := [(2, .int 34), (0, .ref mo), (1, .int 0)]) hx hb dX12_image_81 hl (k := 0) rfl (by decide) (by decide) rfl ?_
  clear hl
  try clear ls
  intro ls hl
  refine lv_goto (tgt := 33) hx hb dX12_image_84 (by decide) ?_
  refine lv_iload_n hx hb dX12_image_33 rfl (lv_at hl 0 rfl) ?_
  refine lv_bipush (v := 40) hx hb dX12_image_34 (by decide) ?_
  refine lv_icmp_ge (tgt := 87) hx hb dX12_image_36 (by decide) (fun c9 => absurd c9 (by decide)) (fun _ => ?_)
  refine lv_aload_n hx hb dX12_image_39 rfl (lv_at hl 1 rfl) ?_
  refine va_get (ci := 12) (v := .ref (h 33)) (C := RX12) (T := TX12) (N := 58) hx hb ht iX12 hown hK hP 0 rfl rfl 53 (by decide) (ht _ k_305) (fun _ h9 => h9) rfl dX12_image_40 ?_
  refine lv_bipush (v := 40) hx hb dX12_image_43 (by decide) ?_
  refine lv_iload_n hx hb dX12_image_45 rfl (lv_at hl 2 rfl) ?_
  refine lv_imul hx hb dX12_image_46 ?_
  refine ow_top 0 (by decide +kernel) ?_
  refine lv_iload_n hx hb dX12_image_47 rfl (lv_at hl 0 rfl) ?_
  refine lv_iadd hx hb dX12_image_48 ?_
  refine ow_top 34 (by decide +kernel) ?_
  refine lv_aload_n hx hb dX12_image_49 rfl (lv_at hl 1 rfl) ?_
  refine va_get (ci := 12) (v := .ref (h 7)) (C := RX12) (T := TX12) (N := 58) hx hb ht iX12 hown hK hP 0 rfl rfl 16 (by decide) (ht _ k_280) (fun _ h9 => h9) rfl dX12_image_50 ?_
  refine lv_sipush (v := 1120) hx hb dX12_image_53 (by decide) ?_
  refine lv_iload_n hx hb dX12_image_56 rfl (lv_at hl 0 rfl) ?_
  refine lv_iadd hx hb dX12_image_57 ?_
  refine ow_top 1154 (by decide +kernel) ?_
  refine va_iald hx hb hK hP 7 0 rfl rfl (in_lit (by decide +kernel)) dX12_image_58 ?_
  refine ow_top 0 rfl ?_
  refine ow_iastS hx hb hK hP hD hS 12 rfl (in_lit (by decide +kernel)) dX12_image_59 ?_
  clear hP hD hS
  try clear H locs
  intro H locs hP hD hS
  replace hP : va_P G vwCl [(mo, .inr (12, [.ref (h 0), .ref (h 1), .int 0, .int 0, .int 0, .int (-1), .int 0, .int 0, .int 0, .int 0, .long 0, .ref (h 2), .ref (h 3), .ref (h 4), .ref (h 5), .ref (h 6), .ref (h 7), .ref (h 8), .ref (h 9), .ref (h 10), .ref (h 11), .ref (h 12), .ref (h 13), .ref (h 14), .ref (h 15), .ref (h 16), .ref (h 17), .ref (h 18), .ref (h 19), .int 0, .int 0, .int 0, .int 0, .int 0, .int 0, .ref (h 20), .ref (h 21), .int 0, .ref (h 22), .ref (h 23), .ref (h 24), .ref (h 25), .ref (h 26), .int 0, .int 0, .ref (h 27), .ref (h 28), .ref (h 29), .ref (h 30), .ref (h 31), .int 0, .int 0, .ref (h 32), .ref (h 33), .ref (h 34), .ref (h 35), .ref (h 36), .ref (h 37)])), ((h 0), .inl (cy 1, 1720, .inl (fun _ => 0))), ((h 2), .inl (cy 0, 2, .inl (fun _ => 0))), ((h 3), .inl (cy 0, 2, .inl (fun _ => 0))), ((h 4), .inl (cy 0, 2, .inl (fun _ => 0))), ((h 5), .inl (cy 0, 2, .inl (f 0))), ((h 12), .inl (cy 2, 2, .inl (f 1))), ((h 7), .inl (cy 0, 1200, .inl (fun _ => 0))), ((h 8), .inl (cy 0, 1200, .inl (fun _ => 0))), ((h 20), .inl (cy 2, 8, .inl (fun _ => 0))), ((h 21), .inl (cy 0, 8, .inl (fun _ => 0))), ((h 32), .inl (cy 0, 3, .inl f_4)), ((h 33), .inl (cy 0, 120, .inl (fun _ => 0))), ((h 34), .inl (cy 0, 120, .inl (fun _ => 0))), ((h 35), .inl (cy 0, 24, .inl (fun _ => 0))), ((h 36), .inl (cy 2, 24, .inl (fun _ => 0))), ((h 37), .inl (cy 2, 3, .inl f_5))] H := hP
  replace hD : va_D A [(mo, .inr (12, [.ref (h 0), .ref (h 1), .int 0, .int 0, .int 0, .int (-1), .int 0, .int 0, .int 0, .int 0, .long 0, .ref (h 2), .ref (h 3), .ref (h 4), .ref (h 5), .ref (h 6), .ref (h 7), .ref (h 8), .ref (h 9), .ref (h 10), .ref (h 11), .ref (h 12), .ref (h 13), .ref (h 14), .ref (h 15), .ref (h 16), .ref (h 17), .ref (h 18), .ref (h 19), .int 0, .int 0, .int 0, .int 0, .int 0, .int 0, .ref (h 20), .ref (h 21), .int 0, .ref (h 22), .ref (h 23), .ref (h 24), .ref (h 25), .ref (h 26), .int 0, .int 0, .ref (h 27), .ref (h 28), .ref (h 29), .ref (h 30), .ref (h 31), .int 0, .int 0, .ref (h 32), .ref (h 33), .ref (h 34), .ref (h 35), .ref (h 36), .ref (h 37)])), ((h 0), .inl (cy 1, 1720, .inl (fun _ => 0))), ((h 2), .inl (cy 0, 2, .inl (fun _ => 0))), ((h 3), .inl (cy 0, 2, .inl (fun _ => 0))), ((h 4), .inl (cy 0, 2, .inl (fun _ => 0))), ((h 5), .inl (cy 0, 2, .inl (f 0))), ((h 12), .inl (cy 2, 2, .inl (f 1))), ((h 7), .inl (cy 0, 1200, .inl (fun _ => 0))), ((h 8), .inl (cy 0, 1200, .inl (fun _ => 0))), ((h 20), .inl (cy 2, 8, .inl (fun _ => 0))), ((h 21), .inl (cy 0, 8, .inl (fun _ => 0))), ((h 32), .inl (cy 0, 3, .inl f_4)), ((h 33), .inl (cy 0, 120, .inl (fun _ => 0))), ((h 34), .inl (cy 0, 120, .inl (fun _ => 0))), ((h 35), .inl (cy 0, 24, .inl (fun _ => 0))), ((h 36), .inl (cy 2, 24, .inl (fun _ => 0))), ((h 37), .inl (cy 2, 3, .inl f_5))] := hD
  refine lv_aload_n hx hb dX12_image_60 rfl (lv_at hl 1 rfl) ?_
  refine va_get (ci := 12) (v := .ref (h 34)) (C := RX12) (T := TX12) (N := 58) hx hb ht iX12 hown hK hP 0 rfl rfl 54 (by decide) (ht _ k_306) (fun _ h9 => h9) rfl dX12_image_61 ?_
  refine lv_bipush (v := 40) hx hb dX12_image_64 (by decide) ?_
  refine lv_iload_n hx hb dX12_image_66 rfl (lv_at hl 2 rfl) ?_
  refine lv_imul hx hb dX12_image_67 ?_
  refine ow_top 0 (by decide +kernel) ?_
  refine lv_iload_n hx hb dX12_image_68 rfl (lv_at hl 0 rfl) ?_
  refine lv_iadd hx hb dX12_image_69 ?_
  refine ow_top 34 (by decide +kernel) ?_
  refine lv_aload_n hx hb dX12_image_70 rfl (lv_at hl 1 rfl) ?_
  refine va_get (ci := 12) (v := .ref (h 8)) (C := RX12) (T := TX12) (N := 58) hx hb ht iX12 hown hK hP 0 rfl rfl 17 (by decide) (ht _ k_281) (fun _ h9 => h9) rfl dX12_image_71 ?_
  refine lv_sipush (v := 1120) hx hb dX12_image_74 (by decide) ?_
  refine lv_iload_n hx hb dX12_image_77 rfl (lv_at hl 0 rfl) ?_
  refine lv_iadd hx hb dX12_image_78 ?_
  refine ow_top 1154 (by decide +kernel) ?_
  refine va_iald hx hb hK hP 8 0 rfl rfl (in_lit (by decide +kernel)) dX12_image_79 ?_
  refine ow_top 0 rfl ?_
  refine ow_iastS hx hb hK hP hD hS 13 rfl (in_lit (by decide +kernel)) dX12_image_80 ?_
  clear hP hD hS
  try clear H locs
  intro H locs hP hD hS
  replace hP : va_P G vwCl [(mo, .inr (12, [.ref (h 0), .ref (h 1), .int 0, .int 0, .int 0, .int (-1), .int 0, .int 0, .int 0, .int 0, .long 0, .ref (h 2), .ref (h 3), .ref (h 4), .ref (h 5), .ref (h 6), .ref (h 7), .ref (h 8), .ref (h 9), .ref (h 10), .ref (h 11), .ref (h 12), .ref (h 13), .ref (h 14), .ref (h 15), .ref (h 16), .ref (h 17), .ref (h 18), .ref (h 19), .int 0, .int 0, .int 0, .int 0, .int 0, .int 0, .ref (h 20), .ref (h 21), .int 0, .ref (h 22), .ref (h 23), .ref (h 24), .ref (h 25), .ref (h 26), .int 0, .int 0, .ref (h 27), .ref (h 28), .ref (h 29), .ref (h 30), .ref (h 31), .int 0, .int 0, .ref (h 32), .ref (h 33), .ref (h 34), .ref (h 35), .ref (h 36), .ref (h 37)])), ((h 0), .inl (cy 1, 1720, .inl (fun _ => 0))), ((h 2), .inl (cy 0, 2, .inl (fun _ => 0))), ((h 3), .inl (cy 0, 2, .inl (fun _ => 0))), ((h 4), .inl (cy 0, 2, .inl (fun _ => 0))), ((h 5), .inl (cy 0, 2, .inl (f 0))), ((h 12), .inl (cy 2, 2, .inl (f 1))), ((h 7), .inl (cy 0, 1200, .inl (fun _ => 0))), ((h 8), .inl (cy 0, 1200, .inl (fun _ => 0))), ((h 20), .inl (cy 2, 8, .inl (fun _ => 0))), ((h 21), .inl (cy 0, 8, .inl (fun _ => 0))), ((h 32), .inl (cy 0, 3, .inl f_4)), ((h 33), .inl (cy 0, 120, .inl (fun _ => 0))), ((h 34), .inl (cy 0, 120, .inl (fun _ => 0))), ((h 35), .inl (cy 0, 24, .inl (fun _ => 0))), ((h 36), .inl (cy 2, 24, .inl (fun _ => 0))), ((h 37), .inl (cy 2, 3, .inl f_5))] H := hP
  replace hD : va_D A [(mo, .inr (12, [.ref (h 0), .ref (h 1), .int 0, .int 0, .int 0, .int (-1), .int 0, .int 0, .int 0, .int 0, .long 0, .ref (h 2), .ref (h 3), .ref (h 4), .ref (h 5), .ref (h 6), .ref (h 7), .ref (h 8), .ref (h 9), .ref (h 10), .ref (h 11), .ref (h 12), .ref (h 13), .ref (h 14), .ref (h 15), .ref (h 16), .ref (h 17), .ref (h 18), .ref (h 19), .int 0, .int 0, .int 0, .int 0, .int 0, .int 0, .ref (h 20), .ref (h 21), .int 0, .ref (h 22), .ref (h 23), .ref (h 24), .ref (h 25), .ref (h 26), .int 0, .int 0, .ref (h 27), .ref (h 28), .ref (h 29), .ref (h 30), .ref (h 31), .int 0, .int 0, .ref (h 32), .ref (h 33), .ref (h 34), .ref (h 35), .ref (h 36), .ref (h 37)])), ((h 0), .inl (cy 1, 1720, .inl (fun _ => 0))), ((h 2), .inl (cy 0, 2, .inl (fun _ => 0))), ((h 3), .inl (cy 0, 2, .inl (fun _ => 0))), ((h 4), .inl (cy 0, 2, .inl (fun _ => 0))), ((h 5), .inl (cy 0, 2, .inl (f 0))), ((h 12), .inl (cy 2, 2, .inl (f 1))), ((h 7), .inl (cy 0, 1200, .inl (fun _ => 0))), ((h 8), .inl (cy 0, 1200, .inl (fun _ => 0))), ((h 20), .inl (cy 2, 8, .inl (fun _ => 0))), ((h 21), .inl (cy 0, 8, .inl (fun _ => 0))), ((h 32), .inl (cy 0, 3, .inl f_4)), ((h 33), .inl (cy 0, 120, .inl (fun _ => 0))), ((h 34), .inl (cy 0, 120, .inl (fun _ => 0))), ((h 35), .inl (cy 0, 24, .inl (fun _ => 0))), ((h 36), .inl (cy 2, 24, .inl (fun _ => 0))), ((h 37), .inl (cy 2, 3, .inl f_5))] := hD
  refine lv_iinc (v := 35) (lv' := [(2, .int 35), (0, .ref mo), (1, .int 0)]) hx hb dX12_image_81 hl (k := 0) rfl (by decide) (by decide) rfl ?_
  clear hl
  try clear ls
  intro ls hl
  refine lv_goto (tgt := 33) hx hb dX12_image_84 (by decide) ?_
  refine lv_iload_n hx hb dX12_image_33 rfl (lv_at hl 0 rfl) ?_
  refine lv_bipush (v := 40) hx hb dX12_image_34 (by decide) ?_
  refine lv_icmp_ge (tgt := 87) hx hb dX12_image_36 (by decide) (fun c9 => absurd c9 (by decide)) (fun _ => ?_)
  refine lv_aload_n hx hb dX12_image_39 rfl (lv_at hl 1 rfl) ?_
  refine va_get (ci := 12) (v := .ref (h 33)) (C := RX12) (T := TX12) (N := 58) hx hb ht iX12 hown hK hP 0 rfl rfl 53 (by decide) (ht _ k_305) (fun _ h9 => h9) rfl dX12_image_40 ?_
  refine lv_bipush (v := 40) hx hb dX12_image_43 (by decide) ?_
  refine lv_iload_n hx hb dX12_image_45 rfl (lv_at hl 2 rfl) ?_
  refine lv_imul hx hb dX12_image_46 ?_
  refine ow_top 0 (by decide +kernel) ?_
  refine lv_iload_n hx hb dX12_image_47 rfl (lv_at hl 0 rfl) ?_
  refine lv_iadd hx hb dX12_image_48 ?_
  refine ow_top 35 (by decide +kernel) ?_
  refine lv_aload_n hx hb dX12_image_49 rfl (lv_at hl 1 rfl) ?_
  refine va_get (ci := 12) (v := .ref (h 7)) (C := RX12) (T := TX12) (N := 58) hx hb ht iX12 hown hK hP 0 rfl rfl 16 (by decide) (ht _ k_280) (fun _ h9 => h9) rfl dX12_image_50 ?_
  refine lv_sipush (v := 1120) hx hb dX12_image_53 (by decide) ?_
  refine lv_iload_n hx hb dX12_image_56 rfl (lv_at hl 0 rfl) ?_
  refine lv_iadd hx hb dX12_image_57 ?_
  refine ow_top 1155 (by decide +kernel) ?_
  refine va_iald hx hb hK hP 7 0 rfl rfl (in_lit (by decide +kernel)) dX12_image_58 ?_
  refine ow_top 0 rfl ?_
  refine ow_iastS hx hb hK hP hD hS 12 rfl (in_lit (by decide +kernel)) dX12_image_59 ?_
  clear hP hD hS
  try clear H locs
  intro H locs hP hD hS
  replace hP : va_P G vwCl [(mo, .inr (12, [.ref (h 0), .ref (h 1), .int 0, .int 0, .int 0, .int (-1), .int 0, .int 0, .int 0, .int 0, .long 0, .ref (h 2), .ref (h 3), .ref (h 4), .ref (h 5), .ref (h 6), .ref (h 7), .ref (h 8), .ref (h 9), .ref (h 10), .ref (h 11), .ref (h 12), .ref (h 13), .ref (h 14), .ref (h 15), .ref (h 16), .ref (h 17), .ref (h 18), .ref (h 19), .int 0, .int 0, .int 0, .int 0, .int 0, .int 0, .ref (h 20), .ref (h 21), .int 0, .ref (h 22), .ref (h 23), .ref (h 24), .ref (h 25), .ref (h 26), .int 0, .int 0, .ref (h 27), .ref (h 28), .ref (h 29), .ref (h 30), .ref (h 31), .int 0, .int 0, .ref (h 32), .ref (h 33), .ref (h 34), .ref (h 35), .ref (h 36), .ref (h 37)])), ((h 0), .inl (cy 1, 1720, .inl (fun _ => 0))), ((h 2), .inl (cy 0, 2, .inl (fun _ => 0))), ((h 3), .inl (cy 0, 2, .inl (fun _ => 0))), ((h 4), .inl (cy 0, 2, .inl (fun _ => 0))), ((h 5), .inl (cy 0, 2, .inl (f 0))), ((h 12), .inl (cy 2, 2, .inl (f 1))), ((h 7), .inl (cy 0, 1200, .inl (fun _ => 0))), ((h 8), .inl (cy 0, 1200, .inl (fun _ => 0))), ((h 20), .inl (cy 2, 8, .inl (fun _ => 0))), ((h 21), .inl (cy 0, 8, .inl (fun _ => 0))), ((h 32), .inl (cy 0, 3, .inl f_4)), ((h 33), .inl (cy 0, 120, .inl (fun _ => 0))), ((h 34), .inl (cy 0, 120, .inl (fun _ => 0))), ((h 35), .inl (cy 0, 24, .inl (fun _ => 0))), ((h 36), .inl (cy 2, 24, .inl (fun _ => 0))), ((h 37), .inl (cy 2, 3, .inl f_5))] H := hP
  replace hD : va_D A [(mo, .inr (12, [.ref (h 0), .ref (h 1), .int 0, .int 0, .int 0, .int (-1), .int 0, .int 0, .int 0, .int 0, .long 0, .ref (h 2), .ref (h 3), .ref (h 4), .ref (h 5), .ref (h 6), .ref (h 7), .ref (h 8), .ref (h 9), .ref (h 10), .ref (h 11), .ref (h 12), .ref (h 13), .ref (h 14), .ref (h 15), .ref (h 16), .ref (h 17), .ref (h 18), .ref (h 19), .int 0, .int 0, .int 0, .int 0, .int 0, .int 0, .ref (h 20), .ref (h 21), .int 0, .ref (h 22), .ref (h 23), .ref (h 24), .ref (h 25), .ref (h 26), .int 0, .int 0, .ref (h 27), .ref (h 28), .ref (h 29), .ref (h 30), .ref (h 31), .int 0, .int 0, .ref (h 32), .ref (h 33), .ref (h 34), .ref (h 35), .ref (h 36), .ref (h 37)])), ((h 0), .inl (cy 1, 1720, .inl (fun _ => 0))), ((h 2), .inl (cy 0, 2, .inl (fun _ => 0))), ((h 3), .inl (cy 0, 2, .inl (fun _ => 0))), ((h 4), .inl (cy 0, 2, .inl (fun _ => 0))), ((h 5), .inl (cy 0, 2, .inl (f 0))), ((h 12), .inl (cy 2, 2, .inl (f 1))), ((h 7), .inl (cy 0, 1200, .inl (fun _ => 0))), ((h 8), .inl (cy 0, 1200, .inl (fun _ => 0))), ((h 20), .inl (cy 2, 8, .inl (fun _ => 0))), ((h 21), .inl (cy 0, 8, .inl (fun _ => 0))), ((h 32), .inl (cy 0, 3, .inl f_4)), ((h 33), .inl (cy 0, 120, .inl (fun _ => 0))), ((h 34), .inl (cy 0, 120, .inl (fun _ => 0))), ((h 35), .inl (cy 0, 24, .inl (fun _ => 0))), ((h 36), .inl (cy 2, 24, .inl (fun _ => 0))), ((h 37), .inl (cy 2, 3, .inl f_5))] := hD
  refine lv_aload_n hx hb dX12_image_60 rfl (lv_at hl 1 rfl) ?_
  refine va_get (ci := 12) (v := .ref (h 34)) (C := RX12) (T := TX12) (N := 58) hx hb ht iX12 hown hK hP 0 rfl rfl 54 (by decide) (ht _ k_306) (fun _ h9 => h9) rfl dX12_image_61 ?_
  refine lv_bipush (v := 40) hx hb dX12_image_64 (by decide) ?_
  refine lv_iload_n hx hb dX12_image_66 rfl (lv_at hl 2 rfl) ?_
  refine lv_imul hx hb dX12_image_67 ?_
  refine ow_top 0 (by decide +kernel) ?_
  refine lv_iload_n hx hb dX12_image_68 rfl (lv_at hl 0 rfl) ?_
  refine lv_iadd hx hb dX12_image_69 ?_
  refine ow_top 35 (by decide +kernel) ?_
  refine lv_aload_n hx hb dX12_image_70 rfl (lv_at hl 1 rfl) ?_
  refine va_get (ci := 12) (v := .ref (h 8)) (C := RX12) (T := TX12) (N := 58) hx hb ht iX12 hown hK hP 0 rfl rfl 17 (by decide) (ht _ k_281) (fun _ h9 => h9) rfl dX12_image_71 ?_
  refine lv_sipush (v := 1120) hx hb dX12_image_74 (by decide) ?_
  refine lv_iload_n hx hb dX12_image_77 rfl (lv_at hl 0 rfl) ?_
  refine lv_iadd hx hb dX12_image_78 ?_
  refine ow_top 1155 (by decide +kernel) ?_
  refine va_iald hx hb hK hP 8 0 rfl rfl (in_lit (by decide +kernel)) dX12_image_79 ?_
  refine ow_top 0 rfl ?_
  refine ow_iastS hx hb hK hP hD hS 13 rfl (in_lit (by decide +kernel)) dX12_image_80 ?_
  clear hP hD hS
  try clear H locs
  intro H locs hP hD hS
  replace hP : va_P G vwCl [(mo, .inr (12, [.ref (h 0), .ref (h 1), .int 0, .int 0, .int 0, .int (-1), .int 0, .int 0, .int 0, .int 0, .long 0, .ref (h 2), .ref (h 3), .ref (h 4), .ref (h 5), .ref (h 6), .ref (h 7), .ref (h 8), .ref (h 9), .ref (h 10), .ref (h 11), .ref (h 12), .ref (h 13), .ref (h 14), .ref (h 15), .ref (h 16), .ref (h 17), .ref (h 18), .ref (h 19), .int 0, .int 0, .int 0, .int 0, .int 0, .int 0, .ref (h 20), .ref (h 21), .int 0, .ref (h 22), .ref (h 23), .ref (h 24), .ref (h 25), .ref (h 26), .int 0, .int 0, .ref (h 27), .ref (h 28), .ref (h 29), .ref (h 30), .ref (h 31), .int 0, .int 0, .ref (h 32), .ref (h 33), .ref (h 34), .ref (h 35), .ref (h 36), .ref (h 37)])), ((h 0), .inl (cy 1, 1720, .inl (fun _ => 0))), ((h 2), .inl (cy 0, 2, .inl (fun _ => 0))), ((h 3), .inl (cy 0, 2, .inl (fun _ => 0))), ((h 4), .inl (cy 0, 2, .inl (fun _ => 0))), ((h 5), .inl (cy 0, 2, .inl (f 0))), ((h 12), .inl (cy 2, 2, .inl (f 1))), ((h 7), .inl (cy 0, 1200, .inl (fun _ => 0))), ((h 8), .inl (cy 0, 1200, .inl (fun _ => 0))), ((h 20), .inl (cy 2, 8, .inl (fun _ => 0))), ((h 21), .inl (cy 0, 8, .inl (fun _ => 0))), ((h 32), .inl (cy 0, 3, .inl f_4)), ((h 33), .inl (cy 0, 120, .inl (fun _ => 0))), ((h 34), .inl (cy 0, 120, .inl (fun _ => 0))), ((h 35), .inl (cy 0, 24, .inl (fun _ => 0))), ((h 36), .inl (cy 2, 24, .inl (fun _ => 0))), ((h 37), .inl (cy 2, 3, .inl f_5))] H := hP
  replace hD : va_D A [(mo, .inr (12, [.ref (h 0), .ref (h 1), .int 0, .int 0, .int 0, .int (-1), .int 0, .int 0, .int 0, .int 0, .long 0, .ref (h 2), .ref (h 3), .ref (h 4), .ref (h 5), .ref (h 6), .ref (h 7), .ref (h 8), .ref (h 9), .ref (h 10), .ref (h 11), .ref (h 12), .ref (h 13), .ref (h 14), .ref (h 15), .ref (h 16), .ref (h 17), .ref (h 18), .ref (h 19), .int 0, .int 0, .int 0, .int 0, .int 0, .int 0, .ref (h 20), .ref (h 21), .int 0, .ref (h 22), .ref (h 23), .ref (h 24), .ref (h 25), .ref (h 26), .int 0, .int 0, .ref (h 27), .ref (h 28), .ref (h 29), .ref (h 30), .ref (h 31), .int 0, .int 0, .ref (h 32), .ref (h 33), .ref (h 34), .ref (h 35), .ref (h 36), .ref (h 37)])), ((h 0), .inl (cy 1, 1720, .inl (fun _ => 0))), ((h 2), .inl (cy 0, 2, .inl (fun _ => 0))), ((h 3), .inl (cy 0, 2, .inl (fun _ => 0))), ((h 4), .inl (cy 0, 2, .inl (fun _ => 0))), ((h 5), .inl (cy 0, 2, .inl (f 0))), ((h 12), .inl (cy 2, 2, .inl (f 1))), ((h 7), .inl (cy 0, 1200, .inl (fun _ => 0))), ((h 8), .inl (cy 0, 1200, .inl (fun _ => 0))), ((h 20), .inl (cy 2, 8, .inl (fun _ => 0))), ((h 21), .inl (cy 0, 8, .inl (fun _ => 0))), ((h 32), .inl (cy 0, 3, .inl f_4)), ((h 33), .inl (cy 0, 120, .inl (fun _ => 0))), ((h 34), .inl (cy 0, 120, .inl (fun _ => 0))), ((h 35), .inl (cy 0, 24, .inl (fun _ => 0))), ((h 36), .inl (cy 2, 24, .inl (fun _ => 0))), ((h 37), .inl (cy 2, 3, .inl f_5))] := hD
  refine lv_iinc (v := 36) (lv' := [(2, .int 36), (0, .ref mo), (1, .int 0)]) hx hb dX12_image_81 hl (k := 0) rfl (by decide) (by decide) rfl ?_
  clear hl
  try clear ls
  intro ls hl
  refine lv_goto (tgt := 33) hx hb dX12_image_84 (by decide) ?_
  refine lv_iload_n hx hb dX12_image_33 rfl (lv_at hl 0 rfl) ?_
  refine lv_bipush (v := 40) hx hb dX12_image_34 (by decide) ?_
  refine lv_icmp_ge (tgt := 87) hx hb dX12_image_36 (by decide) (fun c9 => absurd c9 (by decide)) (fun _ => ?_)
  refine lv_aload_n hx hb dX12_image_39 rfl (lv_at hl 1 rfl) ?_
  refine va_get (ci := 12) (v := .ref (h 33)) (C := RX12) (T := TX12) (N := 58) hx hb ht iX12 hown hK hP 0 rfl rfl 53 (by decide) (ht _ k_305) (fun _ h9 => h9) rfl dX12_image_40 ?_
  refine lv_bipush (v := 40) hx hb dX12_image_43 (by decide) ?_
  refine lv_iload_n hx hb dX12_image_45 rfl (lv_at hl 2 rfl) ?_
  refine lv_imul hx hb dX12_image_46 ?_
  refine ow_top 0 (by decide +kernel) ?_
  refine lv_iload_n hx hb dX12_image_47 rfl (lv_at hl 0 rfl) ?_
  refine lv_iadd hx hb dX12_image_48 ?_
  refine ow_top 36 (by decide +kernel) ?_
  refine lv_aload_n hx hb dX12_image_49 rfl (lv_at hl 1 rfl) ?_
  refine va_get (ci := 12) (v := .ref (h 7)) (C := RX12) (T := TX12) (N := 58) hx hb ht iX12 hown hK hP 0 rfl rfl 16 (by decide) (ht _ k_280) (fun _ h9 => h9) rfl dX12_image_50 ?_
  refine lv_sipush (v := 1120) hx hb dX12_image_53 (by decide) ?_
  refine lv_iload_n hx hb dX12_image_56 rfl (lv_at hl 0 rfl) ?_
  refine lv_iadd hx hb dX12_image_57 ?_
  refine ow_top 1156 (by decide +kernel) ?_
  refine va_iald hx hb hK hP 7 0 rfl rfl (in_lit (by decide +kernel)) dX12_image_58 ?_
  refine ow_top 0 rfl ?_
  refine ow_iastS hx hb hK hP hD hS 12 rfl (in_lit (by decide +kernel)) dX12_image_59 ?_
  clear hP hD hS
  try clear H locs
  intro H locs hP hD hS
  replace hP : va_P G vwCl [(mo, .inr (12, [.ref (h 0), .ref (h 1), .int 0, .int 0, .int 0, .int (-1), .int 0, .int 0, .int 0, .int 0, .long 0, .ref (h 2), .ref (h 3), .ref (h 4), .ref (h 5), .ref (h 6), .ref (h 7), .ref (h 8), .ref (h 9), .ref (h 10), .ref (h 11), .ref (h 12), .ref (h 13), .ref (h 14), .ref (h 15), .ref (h 16), .ref (h 17), .ref (h 18), .ref (h 19), .int 0, .int 0, .int 0, .int 0, .int 0, .int 0, .ref (h 20), .ref (h 21), .int 0, .ref (h 22), .ref (h 23), .ref (h 24), .ref (h 25), .ref (h 26), .int 0, .int 0, .ref (h 27), .ref (h 28), .ref (h 29), .ref (h 30), .ref (h 31), .int 0, .int 0, .ref (h 32), .ref (h 33), .ref (h 34), .ref (h 35), .ref (h 36), .ref (h 37)])), ((h 0), .inl (cy 1, 1720, .inl (fun _ => 0))), ((h 2), .inl (cy 0, 2, .inl (fun _ => 0))), ((h 3), .inl (cy 0, 2, .inl (fun _ => 0))), ((h 4), .inl (cy 0, 2, .inl (fun _ => 0))), ((h 5), .inl (cy 0, 2, .inl (f 0))), ((h 12), .inl (cy 2, 2, .inl (f 1))), ((h 7), .inl (cy 0, 1200, .inl (fun _ => 0))), ((h 8), .inl (cy 0, 1200, .inl (fun _ => 0))), ((h 20), .inl (cy 2, 8, .inl (fun _ => 0))), ((h 21), .inl (cy 0, 8, .inl (fun _ => 0))), ((h 32), .inl (cy 0, 3, .inl f_4)), ((h 33), .inl (cy 0, 120, .inl (fun _ => 0))), ((h 34), .inl (cy 0, 120, .inl (fun _ => 0))), ((h 35), .inl (cy 0, 24, .inl (fun _ => 0))), ((h 36), .inl (cy 2, 24, .inl (fun _ => 0))), ((h 37), .inl (cy 2, 3, .inl f_5))] H := hP
  replace hD : va_D A [(mo, .inr (12, [.ref (h 0), .ref (h 1), .int 0, .int 0, .int 0, .int (-1), .int 0, .int 0, .int 0, .int 0, .long 0, .ref (h 2), .ref (h 3), .ref (h 4), .ref (h 5), .ref (h 6), .ref (h 7), .ref (h 8), .ref (h 9), .ref (h 10), .ref (h 11), .ref (h 12), .ref (h 13), .ref (h 14), .ref (h 15), .ref (h 16), .ref (h 17), .ref (h 18), .ref (h 19), .int 0, .int 0, .int 0, .int 0, .int 0, .int 0, .ref (h 20), .ref (h 21), .int 0, .ref (h 22), .ref (h 23), .ref (h 24), .ref (h 25), .ref (h 26), .int 0, .int 0, .ref (h 27), .ref (h 28), .ref (h 29), .ref (h 30), .ref (h 31), .int 0, .int 0, .ref (h 32), .ref (h 33), .ref (h 34), .ref (h 35), .ref (h 36), .ref (h 37)])), ((h 0), .inl (cy 1, 1720, .inl (fun _ => 0))), ((h 2), .inl (cy 0, 2, .inl (fun _ => 0))), ((h 3), .inl (cy 0, 2, .inl (fun _ => 0))), ((h 4), .inl (cy 0, 2, .inl (fun _ => 0))), ((h 5), .inl (cy 0, 2, .inl (f 0))), ((h 12), .inl (cy 2, 2, .inl (f 1))), ((h 7), .inl (cy 0, 1200, .inl (fun _ => 0))), ((h 8), .inl (cy 0, 1200, .inl (fun _ => 0))), ((h 20), .inl (cy 2, 8, .inl (fun _ => 0))), ((h 21), .inl (cy 0, 8, .inl (fun _ => 0))), ((h 32), .inl (cy 0, 3, .inl f_4)), ((h 33), .inl (cy 0, 120, .inl (fun _ => 0))), ((h 34), .inl (cy 0, 120, .inl (fun _ => 0))), ((h 35), .inl (cy 0, 24, .inl (fun _ => 0))), ((h 36), .inl (cy 2, 24, .inl (fun _ => 0))), ((h 37), .inl (cy 2, 3, .inl f_5))] := hD
  refine lv_aload_n hx hb dX12_image_60 rfl (lv_at hl 1 rfl) ?_
  refine va_get (ci := 12) (v := .ref (h 34)) (C := RX12) (T := TX12) (N := 58) hx hb ht iX12 hown hK hP 0 rfl rfl 54 (by decide) (ht _ k_306) (fun _ h9 => h9) rfl dX12_image_61 ?_
  refine lv_bipush (v := 40) hx hb dX12_image_64 (by decide) ?_
  refine lv_iload_n hx hb dX12_image_66 rfl (lv_at hl 2 rfl) ?_
  refine lv_imul hx hb dX12_image_67 ?_
  refine ow_top 0 (by decide +kernel) ?_
  refine lv_iload_n hx hb dX12_image_68 rfl (lv_at hl 0 rfl) ?_
  refine lv_iadd hx hb dX12_image_69 ?_
  refine ow_top 36 (by decide +kernel) ?_
  refine lv_aload_n hx hb dX12_image_70 rfl (lv_at hl 1 rfl) ?_
  refine va_get (ci := 12) (v := .ref (h 8)) (C := RX12) (T := TX12) (N := 58) hx hb ht iX12 hown hK hP 0 rfl rfl 17 (by decide) (ht _ k_281) (fun _ h9 => h9) rfl dX12_image_71 ?_
  refine lv_sipush (v := 1120) hx hb dX12_image_74 (by decide) ?_
  refine lv_iload_n hx hb dX12_image_77 rfl (lv_at hl 0 rfl) ?_
  refine lv_iadd hx hb dX12_image_78 ?_
  refine ow_top 1156 (by decide +kernel) ?_
  refine va_iald hx hb hK hP 8 0 rfl rfl (in_lit (by decide +kernel)) dX12_image_79 ?_
  refine ow_top 0 rfl ?_
  refine ow_iastS hx hb hK hP hD hS 13 rfl (in_lit (by decide +kernel)) dX12_image_80 ?_
  clear hP hD hS
  try clear H locs
  intro H locs hP hD hS
  replace hP : va_P G vwCl [(mo, .inr (12, [.ref (h 0), .ref (h 1), .int 0, .int 0, .int 0, .int (-1), .int 0, .int 0, .int 0, .int 0, .long 0, .ref (h 2), .ref (h 3), .ref (h 4), .ref (h 5), .ref (h 6), .ref (h 7), .ref (h 8), .ref (h 9), .ref (h 10), .ref (h 11), .ref (h 12), .ref (h 13), .ref (h 14), .ref (h 15), .ref (h 16), .ref (h 17), .ref (h 18), .ref (h 19), .int 0, .int 0, .int 0, .int 0, .int 0, .int 0, .ref (h 20), .ref (h 21), .int 0, .ref (h 22), .ref (h 23), .ref (h 24), .ref (h 25), .ref (h 26), .int 0, .int 0, .ref (h 27), .ref (h 28), .ref (h 29), .ref (h 30), .ref (h 31), .int 0, .int 0, .ref (h 32), .ref (h 33), .ref (h 34), .ref (h 35), .ref (h 36), .ref (h 37)])), ((h 0), .inl (cy 1, 1720, .inl (fun _ => 0))), ((h 2), .inl (cy 0, 2, .inl (fun _ => 0))), ((h 3), .inl (cy 0, 2, .inl (fun _ => 0))), ((h 4), .inl (cy 0, 2, .inl (fun _ => 0))), ((h 5), .inl (cy 0, 2, .inl (f 0))), ((h 12), .inl (cy 2, 2, .inl (f 1))), ((h 7), .inl (cy 0, 1200, .inl (fun _ => 0))), ((h 8), .inl (cy 0, 1200, .inl (fun _ => 0))), ((h 20), .inl (cy 2, 8, .inl (fun _ => 0))), ((h 21), .inl (cy 0, 8, .inl (fun _ => 0))), ((h 32), .inl (cy 0, 3, .inl f_4)), ((h 33), .inl (cy 0, 120, .inl (fun _ => 0))), ((h 34), .inl (cy 0, 120, .inl (fun _ => 0))), ((h 35), .inl (cy 0, 24, .inl (fun _ => 0))), ((h 36), .inl (cy 2, 24, .inl (fun _ => 0))), ((h 37), .inl (cy 2, 3, .inl f_5))] H := hP
  replace hD : va_D A [(mo, .inr (12, [.ref (h 0), .ref (h 1), .int 0, .int 0, .int 0, .int (-1), .int 0, .int 0, .int 0, .int 0, .long 0, .ref (h 2), .ref (h 3), .ref (h 4), .ref (h 5), .ref (h 6), .ref (h 7), .ref (h 8), .ref (h 9), .ref (h 10), .ref (h 11), .ref (h 12), .ref (h 13), .ref (h 14), .ref (h 15), .ref (h 16), .ref (h 17), .ref (h 18), .ref (h 19), .int 0, .int 0, .int 0, .int 0, .int 0, .int 0, .ref (h 20), .ref (h 21), .int 0, .ref (h 22), .ref (h 23), .ref (h 24), .ref (h 25), .ref (h 26), .int 0, .int 0, .ref (h 27), .ref (h 28), .ref (h 29), .ref (h 30), .ref (h 31), .int 0, .int 0, .ref (h 32), .ref (h 33), .ref (h 34), .ref (h 35), .ref (h 36), .ref (h 37)])), ((h 0), .inl (cy 1, 1720, .inl (fun _ => 0))), ((h 2), .inl (cy 0, 2, .inl (fun _ => 0))), ((h 3), .inl (cy 0, 2, .inl (fun _ => 0))), ((h 4), .inl (cy 0, 2, .inl (fun _ => 0))), ((h 5), .inl (cy 0, 2, .inl (f 0))), ((h 12), .inl (cy 2, 2, .inl (f 1))), ((h 7), .inl (cy 0, 1200, .inl (fun _ => 0))), ((h 8), .inl (cy 0, 1200, .inl (fun _ => 0))), ((h 20), .inl (cy 2, 8, .inl (fun _ => 0))), ((h 21), .inl (cy 0, 8, .inl (fun _ => 0))), ((h 32), .inl (cy 0, 3, .inl f_4)), ((h 33), .inl (cy 0, 120, .inl (fun _ => 0))), ((h 34), .inl (cy 0, 120, .inl (fun _ => 0))), ((h 35), .inl (cy 0, 24, .inl (fun _ => 0))), ((h 36), .inl (cy 2, 24, .inl (fun _ => 0))), ((h 37), .inl (cy 2, 3, .inl f_5))] := hD
  refine lv_iinc (v := 37) (lv' := [(2, .int 37), (0, .ref mo), (1, .int 0)]) hx hb dX12_image_81 hl (k := 0) rfl (by decide) (by decide) rfl ?_
  clear hl
  try clear ls
  intro ls hl
  refine lv_goto (tgt := 33) hx hb dX12_image_84 (by decide) ?_
  refine lv_iload_n hx hb dX12_image_33 rfl (lv_at hl 0 rfl) ?_
  refine lv_bipush (v := 40) hx hb dX12_image_34 (by decide) ?_
  refine lv_icmp_ge (tgt := 87) hx hb dX12_image_36 (by decide) (fun c9 => absurd c9 (by decide)) (fun _ => ?_)
  refine lv_aload_n hx hb dX12_image_39 rfl (lv_at hl 1 rfl) ?_
  refine va_get (ci := 12) (v := .ref (h 33)) (C := RX12) (T := TX12) (N := 58) hx hb ht iX12 hown hK hP 0 rfl rfl 53 (by decide) (ht _ k_305) (fun _ h9 => h9) rfl dX12_image_40 ?_
  refine lv_bipush (v := 40) hx hb dX12_image_43 (by decide) ?_
  refine lv_iload_n hx hb dX12_image_45 rfl (lv_at hl 2 rfl) ?_
  refine lv_imul hx hb dX12_image_46 ?_
  refine ow_top 0 (by decide +kernel) ?_
  refine lv_iload_n hx hb dX12_image_47 rfl (lv_at hl 0 rfl) ?_
  refine lv_iadd hx hb dX12_image_48 ?_
  refine ow_top 37 (by decide +kernel) ?_
  refine lv_aload_n hx hb dX12_image_49 rfl (lv_at hl 1 rfl) ?_
  refine va_get (ci := 12) (v := .ref (h 7)) (C := RX12) (T := TX12) (N := 58) hx hb ht iX12 hown hK hP 0 rfl rfl 16 (by decide) (ht _ k_280) (fun _ h9 => h9) rfl dX12_image_50 ?_
  refine lv_sipush (v := 1120) hx hb dX12_image_53 (by decide) ?_
  refine lv_iload_n hx hb dX12_image_56 rfl (lv_at hl 0 rfl) ?_
  refine lv_iadd hx hb dX12_image_57 ?_
  refine ow_top 1157 (by decide +kernel) ?_
  refine va_iald hx hb hK hP 7 0 rfl rfl (in_lit (by decide +kernel)) dX12_image_58 ?_
  refine ow_top 0 rfl ?_
  refine ow_iastS hx hb hK hP hD hS 12 rfl (in_lit (by decide +kernel)) dX12_image_59 ?_
  clear hP hD hS
  try clear H locs
  intro H locs hP hD hS
  replace hP : va_P G vwCl [(mo, .inr (12, [.ref (h 0), .ref (h 1), .int 0, .int 0, .int 0, .int (-1), .int 0, .int 0, .int 0, .int 0, .long 0, .ref (h 2), .ref (h 3), .ref (h 4), .ref (h 5), .ref (h 6), .ref (h 7), .ref (h 8), .ref (h 9), .ref (h 10), .ref (h 11), .ref (h 12), .ref (h 13), .ref (h 14), .ref (h 15), .ref (h 16), .ref (h 17), .ref (h 18), .ref (h 19), .int 0, .int 0, .int 0, .int 0, .int 0, .int 0, .ref (h 20), .ref (h 21), .int 0, .ref (h 22), .ref (h 23), .ref (h 24), .ref (h 25), .ref (h 26), .int 0, .int 0, .ref (h 27), .ref (h 28), .ref (h 29), .ref (h 30), .ref (h 31), .int 0, .int 0, .ref (h 32), .ref (h 33), .ref (h 34), .ref (h 35), .ref (h 36), .ref (h 37)])), ((h 0), .inl (cy 1, 1720, .inl (fun _ => 0))), ((h 2), .inl (cy 0, 2, .inl (fun _ => 0))), ((h 3), .inl (cy 0, 2, .inl (fun _ => 0))), ((h 4), .inl (cy 0, 2, .inl (fun _ => 0))), ((h 5), .inl (cy 0, 2, .inl (f 0))), ((h 12), .inl (cy 2, 2, .inl (f 1))), ((h 7), .inl (cy 0, 1200, .inl (fun _ => 0))), ((h 8), .inl (cy 0, 1200, .inl (fun _ => 0))), ((h 20), .inl (cy 2, 8, .inl (fun _ => 0))), ((h 21), .inl (cy 0, 8, .inl (fun _ => 0))), ((h 32), .inl (cy 0, 3, .inl f_4)), ((h 33), .inl (cy 0, 120, .inl (fun _ => 0))), ((h 34), .inl (cy 0, 120, .inl (fun _ => 0))), ((h 35), .inl (cy 0, 24, .inl (fun _ => 0))), ((h 36), .inl (cy 2, 24, .inl (fun _ => 0))), ((h 37), .inl (cy 2, 3, .inl f_5))] H := hP
  replace hD : va_D A [(mo, .inr (12, [.ref (h 0), .ref (h 1), .int 0, .int 0, .int 0, .int (-1), .int 0, .int 0, .int 0, .int 0, .long 0, .ref (h 2), .ref (h 3), .ref (h 4), .ref (h 5), .ref (h 6), .ref (h 7), .ref (h 8), .ref (h 9), .ref (h 10), .ref (h 11), .ref (h 12), .ref (h 13), .ref (h 14), .ref (h 15), .ref (h 16), .ref (h 17), .ref (h 18), .ref (h 19), .int 0, .int 0, .int 0, .int 0, .int 0, .int 0, .ref (h 20), .ref (h 21), .int 0, .ref (h 22), .ref (h 23), .ref (h 24), .ref (h 25), .ref (h 26), .int 0, .int 0, .ref (h 27), .ref (h 28), .ref (h 29), .ref (h 30), .ref (h 31), .int 0, .int 0, .ref (h 32), .ref (h 33), .ref (h 34), .ref (h 35), .ref (h 36), .ref (h 37)])), ((h 0), .inl (cy 1, 1720, .inl (fun _ => 0))), ((h 2), .inl (cy 0, 2, .inl (fun _ => 0))), ((h 3), .inl (cy 0, 2, .inl (fun _ => 0))), ((h 4), .inl (cy 0, 2, .inl (fun _ => 0))), ((h 5), .inl (cy 0, 2, .inl (f 0))), ((h 12), .inl (cy 2, 2, .inl (f 1))), ((h 7), .inl (cy 0, 1200, .inl (fun _ => 0))), ((h 8), .inl (cy 0, 1200, .inl (fun _ => 0))), ((h 20), .inl (cy 2, 8, .inl (fun _ => 0))), ((h 21), .inl (cy 0, 8, .inl (fun _ => 0))), ((h 32), .inl (cy 0, 3, .inl f_4)), ((h 33), .inl (cy 0, 120, .inl (fun _ => 0))), ((h 34), .inl (cy 0, 120, .inl (fun _ => 0))), ((h 35), .inl (cy 0, 24, .inl (fun _ => 0))), ((h 36), .inl (cy 2, 24, .inl (fun _ => 0))), ((h 37), .inl (cy 2, 3, .inl f_5))] := hD
  refine lv_aload_n hx hb dX12_image_60 rfl (lv_at hl 1 rfl) ?_
  refine va_get (ci := 12) (v := .ref (h 34)) (C := RX12) (T := TX12) (N := 58) hx hb ht iX12 hown hK hP 0 rfl rfl 54 (by decide) (ht _ k_306) (fun _ h9 => h9) rfl dX12_image_61 ?_
  refine lv_bipush (v := 40) hx hb dX12_image_64 (by decide) ?_
  refine lv_iload_n hx hb dX12_image_66 rfl (lv_at hl 2 rfl) ?_
  refine lv_imul hx hb dX12_image_67 ?_
  refine ow_top 0 (by decide +kernel) ?_
  refine lv_iload_n hx hb dX12_image_68 rfl (lv_at hl 0 rfl) ?_
  refine lv_iadd hx hb dX12_image_69 ?_
  refine ow_top 37 (by decide +kernel) ?_
  refine lv_aload_n hx hb dX12_image_70 rfl (lv_at hl 1 rfl) ?_
  refine va_get (ci := 12) (v := .ref (h 8)) (C := RX12) (T := TX12) (N := 58) hx hb ht iX12 hown hK hP 0 rfl rfl 17 (by decide) (ht _ k_281) (fun _ h9 => h9) rfl dX12_image_71 ?_
  refine lv_sipush (v := 1120) hx hb dX12_image_74 (by decide) ?_
  refine lv_iload_n hx hb dX12_image_77 rfl (lv_at hl 0 rfl) ?_
  refine lv_iadd hx hb dX12_image_78 ?_
  refine ow_top 1157 (by decide +kernel) ?_
  refine va_iald hx hb hK hP 8 0 rfl rfl (in_lit (by decide +kernel)) dX12_image_79 ?_
  refine ow_top 0 rfl ?_
  refine ow_iastS hx hb hK hP hD hS 13 rfl (in_lit (by decide +kernel)) dX12_image_80 ?_
  clear hP hD hS
  try clear H locs
  intro H locs hP hD hS
  replace hP : va_P G vwCl [(mo, .inr (12, [.ref (h 0), .ref (h 1), .int 0, .int 0, .int 0, .int (-1), .int 0, .int 0, .int 0, .int 0, .long 0, .ref (h 2), .ref (h 3), .ref (h 4), .ref (h 5), .ref (h 6), .ref (h 7), .ref (h 8), .ref (h 9), .ref (h 10), .ref (h 11), .ref (h 12), .ref (h 13), .ref (h 14), .ref (h 15), .ref (h 16), .ref (h 17), .ref (h 18), .ref (h 19), .int 0, .int 0, .int 0, .int 0, .int 0, .int 0, .ref (h 20), .ref (h 21), .int 0, .ref (h 22), .ref (h 23), .ref (h 24), .ref (h 25), .ref (h 26), .int 0, .int 0, .ref (h 27), .ref (h 28), .ref (h 29), .ref (h 30), .ref (h 31), .int 0, .int 0, .ref (h 32), .ref (h 33), .ref (h 34), .ref (h 35), .ref (h 36), .ref (h 37)])), ((h 0), .inl (cy 1, 1720, .inl (fun _ => 0))), ((h 2), .inl (cy 0, 2, .inl (fun _ => 0))), ((h 3), .inl (cy 0, 2, .inl (fun _ => 0))), ((h 4), .inl (cy 0, 2, .inl (fun _ => 0))), ((h 5), .inl (cy 0, 2, .inl (f 0))), ((h 12), .inl (cy 2, 2, .inl (f 1))), ((h 7), .inl (cy 0, 1200, .inl (fun _ => 0))), ((h 8), .inl (cy 0, 1200, .inl (fun _ => 0))), ((h 20), .inl (cy 2, 8, .inl (fun _ => 0))), ((h 21), .inl (cy 0, 8, .inl (fun _ => 0))), ((h 32), .inl (cy 0, 3, .inl f_4)), ((h 33), .inl (cy 0, 120, .inl (fun _ => 0))), ((h 34), .inl (cy 0, 120, .inl (fun _ => 0))), ((h 35), .inl (cy 0, 24, .inl (fun _ => 0))), ((h 36), .inl (cy 2, 24, .inl (fun _ => 0))), ((h 37), .inl (cy 2, 3, .inl f_5))] H := hP
  replace hD : va_D A [(mo, .inr (12, [.ref (h 0), .ref (h 1), .int 0, .int 0, .int 0, .int (-1), .int 0, .int 0, .int 0, .int 0, .long 0, .ref (h 2), .ref (h 3), .ref (h 4), .ref (h 5), .ref (h 6), .ref (h 7), .ref (h 8), .ref (h 9), .ref (h 10), .ref (h 11), .ref (h 12), .ref (h 13), .ref (h 14), .ref (h 15), .ref (h 16), .ref (h 17), .ref (h 18), .ref (h 19), .int 0, .int 0, .int 0, .int 0, .int 0, .int 0, .ref (h 20), .ref (h 21), .int 0, .ref (h 22), .ref (h 23), .ref (h 24), .ref (h 25), .ref (h 26), .int 0, .int 0, .ref (h 27), .ref (h 28), .ref (h 29), .ref (h 30), .ref (h 31), .int 0, .int 0, .ref (h 32), .ref (h 33), .ref (h 34), .ref (h 35), .ref (h 36), .ref (h 37)])), ((h 0), .inl (cy 1, 1720, .inl (fun _ => 0))), ((h 2), .inl (cy 0, 2, .inl (fun _ => 0))), ((h 3), .inl (cy 0, 2, .inl (fun _ => 0))), ((h 4), .inl (cy 0, 2, .inl (fun _ => 0))), ((h 5), .inl (cy 0, 2, .inl (f 0))), ((h 12), .inl (cy 2, 2, .inl (f 1))), ((h 7), .inl (cy 0, 1200, .inl (fun _ => 0))), ((h 8), .inl (cy 0, 1200, .inl (fun _ => 0))), ((h 20), .inl (cy 2, 8, .inl (fun _ => 0))), ((h 21), .inl (cy 0, 8, .inl (fun _ => 0))), ((h 32), .inl (cy 0, 3, .inl f_4)), ((h 33), .inl (cy 0, 120, .inl (fun _ => 0))), ((h 34), .inl (cy 0, 120, .inl (fun _ => 0))), ((h 35), .inl (cy 0, 24, .inl (fun _ => 0))), ((h 36), .inl (cy 2, 24, .inl (fun _ => 0))), ((h 37), .inl (cy 2, 3, .inl f_5))] := hD
  refine lv_iinc (v := 38) (lv' := [(2, .int 38), (0, .ref mo), (1, .int 0)]) hx hb dX12_image_81 hl (k := 0) rfl (by decide) (by decide) rfl ?_
  clear hl
  try clear ls
  intro ls hl
  refine lv_goto (tgt := 33) hx hb dX12_image_84 (by decide) ?_
  refine lv_iload_n hx hb dX12_image_33 rfl (lv_at hl 0 rfl) ?_
  refine lv_bipush (v := 40) hx hb dX12_image_34 (by decide) ?_
  refine lv_icmp_ge (tgt := 87) hx hb dX12_image_36 (by decide) (fun c9 => absurd c9 (by decide)) (fun _ => ?_)
  refine lv_aload_n hx hb dX12_image_39 rfl (lv_at hl 1 rfl) ?_
  refine va_get (ci := 12) (v := .ref (h 33)) (C := RX12) (T := TX12) (N := 58) hx hb ht iX12 hown hK hP 0 rfl rfl 53 (by decide) (ht _ k_305) (fun _ h9 => h9) rfl dX12_image_40 ?_
  refine lv_bipush (v := 40) hx hb dX12_image_43 (by decide) ?_
  refine lv_iload_n hx hb dX12_image_45 rfl (lv_at hl 2 rfl) ?_
  refine lv_imul hx hb dX12_image_46 ?_
  refine ow_top 0 (by decide +kernel) ?_
  refine lv_iload_n hx hb dX12_image_47 rfl (lv_at hl 0 rfl) ?_
  refine lv_iadd hx hb dX12_image_48 ?_
  refine ow_top 38 (by decide +kernel) ?_
  refine lv_aload_n hx hb dX12_image_49 rfl (lv_at hl 1 rfl) ?_
  refine va_get (ci := 12) (v := .ref (h 7)) (C := RX12) (T := TX12) (N := 58) hx hb ht iX12 hown hK hP 0 rfl rfl 16 (by decide) (ht _ k_280) (fun _ h9 => h9) rfl dX12_image_50 ?_
  refine lv_sipush (v := 1120) hx hb dX12_image_53 (by decide) ?_
  refine lv_iload_n hx hb dX12_image_56 rfl (lv_at hl 0 rfl) ?_
  refine lv_iadd hx hb dX12_image_57 ?_
  refine ow_top 1158 (by decide +kernel) ?_
  refine va_iald hx hb hK hP 7 0 rfl rfl (in_lit (by decide +kernel)) dX12_image_58 ?_
  refine ow_top 0 rfl ?_
  refine ow_iastS hx hb hK hP hD hS 12 rfl (in_lit (by decide +kernel)) dX12_image_59 ?_
  clear hP hD hS
  try clear H locs
  intro H locs hP hD hS
  replace hP : va_P G vwCl [(mo, .inr (12, [.ref (h 0), .ref (h 1), .int 0, .int 0, .int 0, .int (-1), .int 0, .int 0, .int 0, .int 0, .long 0, .ref (h 2), .ref (h 3), .ref (h 4), .ref (h 5), .ref (h 6), .ref (h 7), .ref (h 8), .ref (h 9), .ref (h 10), .ref (h 11), .ref (h 12), .ref (h 13), .ref (h 14), .ref (h 15), .ref (h 16), .ref (h 17), .ref (h 18), .ref (h 19), .int 0, .int 0, .int 0, .int 0, .int 0, .int 0, .ref (h 20), .ref (h 21), .int 0, .ref (h 22), .ref (h 23), .ref (h 24), .ref (h 25), .ref (h 26), .int 0, .int 0, .ref (h 27), .ref (h 28), .ref (h 29), .ref (h 30), .ref (h 31), .int 0, .int 0, .ref (h 32), .ref (h 33), .ref (h 34), .ref (h 35), .ref (h 36), .ref (h 37)])), ((h 0), .inl (cy 1, 1720, .inl (fun _ => 0))), ((h 2), .inl (cy 0, 2, .inl (fun _ => 0))), ((h 3), .inl (cy 0, 2, .inl (fun _ => 0))), ((h 4), .inl (cy 0, 2, .inl (fun _ => 0))), ((h 5), .inl (cy 0, 2, .inl (f 0))), ((h 12), .inl (cy 2, 2, .inl (f 1))), ((h 7), .inl (cy 0, 1200, .inl (fun _ => 0))), ((h 8), .inl (cy 0, 1200, .inl (fun _ => 0))), ((h 20), .inl (cy 2, 8, .inl (fun _ => 0))), ((h 21), .inl (cy 0, 8, .inl (fun _ => 0))), ((h 32), .inl (cy 0, 3, .inl f_4)), ((h 33), .inl (cy 0, 120, .inl (fun _ => 0))), ((h 34), .inl (cy 0, 120, .inl (fun _ => 0))), ((h 35), .inl (cy 0, 24, .inl (fun _ => 0))), ((h 36), .inl (cy 2, 24, .inl (fun _ => 0))), ((h 37), .inl (cy 2, 3, .inl f_5))] H := hP
  replace hD : va_D A [(mo, .inr (12, [.ref (h 0), .ref (h 1), .int 0, .int 0, .int 0, .int (-1), .int 0, .int 0, .int 0, .int 0, .long 0, .ref (h 2), .ref (h 3), .ref (h 4), .ref (h 5), .ref (h 6), .ref (h 7), .ref (h 8), .ref (h 9), .ref (h 10), .ref (h 11), .ref (h 12), .ref (h 13), .ref (h 14), .ref (h 15), .ref (h 16), .ref (h 17), .ref (h 18), .ref (h 19), .int 0, .int 0, .int 0, .int 0, .int 0, .int 0, .ref (h 20), .ref (h 21), .int 0, .ref (h 22), .ref (h 23), .ref (h 24), .ref (h 25), .ref (h 26), .int 0, .int 0, .ref (h 27), .ref (h 28), .ref (h 29), .ref (h 30), .ref (h 31), .int 0, .int 0, .ref (h 32), .ref (h 33), .ref (h 34), .ref (h 35), .ref (h 36), .ref (h 37)])), ((h 0), .inl (cy 1, 1720, .inl (fun _ => 0))), ((h 2), .inl (cy 0, 2, .inl (fun _ => 0))), ((h 3), .inl (cy 0, 2, .inl (fun _ => 0))), ((h 4), .inl (cy 0, 2, .inl (fun _ => 0))), ((h 5), .inl (cy 0, 2, .inl (f 0))), ((h 12), .inl (cy 2, 2, .inl (f 1))), ((h 7), .inl (cy 0, 1200, .inl (fun _ => 0))), ((h 8), .inl (cy 0, 1200, .inl (fun _ => 0))), ((h 20), .inl (cy 2, 8, .inl (fun _ => 0))), ((h 21), .inl (cy 0, 8, .inl (fun _ => 0))), ((h 32), .inl (cy 0, 3, .inl f_4)), ((h 33), .inl (cy 0, 120, .inl (fun _ => 0))), ((h 34), .inl (cy 0, 120, .inl (fun _ => 0))), ((h 35), .inl (cy 0, 24, .inl (fun _ => 0))), ((h 36), .inl (cy 2, 24, .inl (fun _ => 0))), ((h 37), .inl (cy 2, 3, .inl f_5))] := hD
  refine lv_aload_n hx hb dX12_image_60 rfl (lv_at hl 1 rfl) ?_
  refine va_get (ci := 12) (v := .ref (h 34)) (C := RX12) (T := TX12) (N := 58) hx hb ht iX12 hown hK hP 0 rfl rfl 54 (by decide) (ht _ k_306) (fun _ h9 => h9) rfl dX12_image_61 ?_
  refine lv_bipush (v := 40) hx hb dX12_image_64 (by decide) ?_
  refine lv_iload_n hx hb dX12_image_66 rfl (lv_at hl 2 rfl) ?_
  refine lv_imul hx hb dX12_image_67 ?_
  refine ow_top 0 (by decide +kernel) ?_
  refine lv_iload_n hx hb dX12_image_68 rfl (lv_at hl 0 rfl) ?_
  refine lv_iadd hx hb dX12_image_69 ?_
  refine ow_top 38 (by decide +kernel) ?_
  refine lv_aload_n hx hb dX12_image_70 rfl (lv_at hl 1 rfl) ?_
  refine va_get (ci := 12) (v := .ref (h 8)) (C := RX12) (T := TX12) (N := 58) hx hb ht iX12 hown hK hP 0 rfl rfl 17 (by decide) (ht _ k_281) (fun _ h9 => h9) rfl dX12_image_71 ?_
  refine lv_sipush (v := 1120) hx hb dX12_image_74 (by decide) ?_
  refine lv_iload_n hx hb dX12_image_77 rfl (lv_at hl 0 rfl) ?_
  refine lv_iadd hx hb dX12_image_78 ?_
  refine ow_top 1158 (by decide +kernel) ?_
  refine va_iald hx hb hK hP 8 0 rfl rfl (in_lit (by decide +kernel)) dX12_image_79 ?_
  refine ow_top 0 rfl ?_
  refine ow_iastS hx hb hK hP hD hS 13 rfl (in_lit (by decide +kernel)) dX12_image_80 ?_
  clear hP hD hS
  try clear H locs
  intro H locs hP hD hS
  replace hP : va_P G vwCl [(mo, .inr (12, [.ref (h 0), .ref (h 1), .int 0, .int 0, .int 0, .int (-1), .int 0, .int 0, .int 0, .int 0, .long 0, .ref (h 2), .ref (h 3), .ref (h 4), .ref (h 5), .ref (h 6), .ref (h 7), .ref (h 8), .ref (h 9), .ref (h 10), .ref (h 11), .ref (h 12), .ref (h 13), .ref (h 14), .ref (h 15), .ref (h 16), .ref (h 17), .ref (h 18), .ref (h 19), .int 0, .int 0, .int 0, .int 0, .int 0, .int 0, .ref (h 20), .ref (h 21), .int 0, .ref (h 22), .ref (h 23), .ref (h 24), .ref (h 25), .ref (h 26), .int 0, .int 0, .ref (h 27), .ref (h 28), .ref (h 29), .ref (h 30), .ref (h 31), .int 0, .int 0, .ref (h 32), .ref (h 33), .ref (h 34), .ref (h 35), .ref (h 36), .ref (h 37)])), ((h 0), .inl (cy 1, 1720, .inl (fun _ => 0))), ((h 2), .inl (cy 0, 2, .inl (fun _ => 0))), ((h 3), .inl (cy 0, 2, .inl (fun _ => 0))), ((h 4), .inl (cy 0, 2, .inl (fun _ => 0))), ((h 5), .inl (cy 0, 2, .inl (f 0))), ((h 12), .inl (cy 2, 2, .inl (f 1))), ((h 7), .inl (cy 0, 1200, .inl (fun _ => 0))), ((h 8), .inl (cy 0, 1200, .inl (fun _ => 0))), ((h 20), .inl (cy 2, 8, .inl (fun _ => 0))), ((h 21), .inl (cy 0, 8, .inl (fun _ => 0))), ((h 32), .inl (cy 0, 3, .inl f_4)), ((h 33), .inl (cy 0, 120, .inl (fun _ => 0))), ((h 34), .inl (cy 0, 120, .inl (fun _ => 0))), ((h 35), .inl (cy 0, 24, .inl (fun _ => 0))), ((h 36), .inl (cy 2, 24, .inl (fun _ => 0))), ((h 37), .inl (cy 2, 3, .inl f_5))] H := hP
  replace hD : va_D A [(mo, .inr (12, [.ref (h 0), .ref (h 1), .int 0, .int 0, .int 0, .int (-1), .int 0, .int 0, .int 0, .int 0, .long 0, .ref (h 2), .ref (h 3), .ref (h 4), .ref (h 5), .ref (h 6), .ref (h 7), .ref (h 8), .ref (h 9), .ref (h 10), .ref (h 11), .ref (h 12), .ref (h 13), .ref (h 14), .ref (h 15), .ref (h 16), .ref (h 17), .ref (h 18), .ref (h 19), .int 0, .int 0, .int 0, .int 0, .int 0, .int 0, .ref (h 20), .ref (h 21), .int 0, .ref (h 22), .ref (h 23), .ref (h 24), .ref (h 25), .ref (h 26), .int 0, .int 0, .ref (h 27), .ref (h 28), .ref (h 29), .ref (h 30), .ref (h 31), .int 0, .int 0, .ref (h 32), .ref (h 33), .ref (h 34), .ref (h 35), .ref (h 36), .ref (h 37)])), ((h 0), .inl (cy 1, 1720, .inl (fun _ => 0))), ((h 2), .inl (cy 0, 2, .inl (fun _ => 0))), ((h 3), .inl (cy 0, 2, .inl (fun _ => 0))), ((h 4), .inl (cy 0, 2, .inl (fun _ => 0))), ((h 5), .inl (cy 0, 2, .inl (f 0))), ((h 12), .inl (cy 2, 2, .inl (f 1))), ((h 7), .inl (cy 0, 1200, .inl (fun _ => 0))), ((h 8), .inl (cy 0, 1200, .inl (fun _ => 0))), ((h 20), .inl (cy 2, 8, .inl (fun _ => 0))), ((h 21), .inl (cy 0, 8, .inl (fun _ => 0))), ((h 32), .inl (cy 0, 3, .inl f_4)), ((h 33), .inl (cy 0, 120, .inl (fun _ => 0))), ((h 34), .inl (cy 0, 120, .inl (fun _ => 0))), ((h 35), .inl (cy 0, 24, .inl (fun _ => 0))), ((h 36), .inl (cy 2, 24, .inl (fun _ => 0))), ((h 37), .inl (cy 2, 3, .inl f_5))] := hD
  refine lv_iinc (v := 39) (lv' := [(2, .int 39), (0, .ref mo), (1, .int 0)]) hx hb dX12_image_81 hl (k := 0) rfl (by decide) (by decide) rfl ?_
  clear hl
  try clear ls
  intro ls hl
  refine lv_goto (tgt := 33) hx hb dX12_image_84 (by decide) ?_
  refine lv_iload_n hx hb dX12_image_33 rfl (lv_at hl 0 rfl) ?_
  refine lv_bipush (v := 40) hx hb dX12_image_34 (by decide) ?_
  refine lv_icmp_ge (tgt := 87) hx hb dX12_image_36 (by decide) (fun c9 => absurd c9 (by decide)) (fun _ => ?_)
  refine lv_aload_n hx hb dX12_image_39 rfl (lv_at hl 1 rfl) ?_
  refine va_get (ci := 12) (v := .ref (h 33)) (C := RX12) (T := TX12) (N := 58) hx hb ht iX12 hown hK hP 0 rfl rfl 53 (by decide) (ht _ k_305) (fun _ h9 => h9) rfl dX12_image_40 ?_
  refine lv_bipush (v := 40) hx hb dX12_image_43 (by decide) ?_
  refine lv_iload_n hx hb dX12_image_45 rfl (lv_at hl 2 rfl) ?_
  refine lv_imul hx hb dX12_image_46 ?_
  refine ow_top 0 (by decide +kernel) ?_
  refine lv_iload_n hx hb dX12_image_47 rfl (lv_at hl 0 rfl) ?_
  refine lv_iadd hx hb dX12_image_48 ?_
  refine ow_top 39 (by decide +kernel) ?_
  refine lv_aload_n hx hb dX12_image_49 rfl (lv_at hl 1 rfl) ?_
  refine va_get (ci := 12) (v := .ref (h 7)) (C := RX12) (T := TX12) (N := 58) hx hb ht iX12 hown hK hP 0 rfl rfl 16 (by decide) (ht _ k_280) (fun _ h9 => h9) rfl dX12_image_50 ?_
  refine lv_sipush (v := 1120) hx hb dX12_image_53 (by decide) ?_
  refine lv_iload_n hx hb dX12_image_56 rfl (lv_at hl 0 rfl) ?_
  refine lv_iadd hx hb dX12_image_57 ?_
  refine ow_top 1159 (by decide +kernel) ?_
  refine va_iald hx hb hK hP 7 0 rfl rfl (in_lit (by decide +kernel)) dX12_image_58 ?_
  refine ow_top 0 rfl ?_
  refine ow_iastS hx hb hK hP hD hS 12 rfl (in_lit (by decide +kernel)) dX12_image_59 ?_
  clear hP hD hS
  try clear H locs
  intro H locs hP hD hS
  replace hP : va_P G vwCl [(mo, .inr (12, [.ref (h 0), .ref (h 1), .int 0, .int 0, .int 0, .int (-1), .int 0, .int 0, .int 0, .int 0, .long 0, .ref (h 2), .ref (h 3), .ref (h 4), .ref (h 5), .ref (h 6), .ref (h 7), .ref (h 8), .ref (h 9), .ref (h 10), .ref (h 11), .ref (h 12), .ref (h 13), .ref (h 14), .ref (h 15), .ref (h 16), .ref (h 17), .ref (h 18), .ref (h 19), .int 0, .int 0, .int 0, .int 0, .int 0, .int 0, .ref (h 20), .ref (h 21), .int 0, .ref (h 22), .ref (h 23), .ref (h 24), .ref (h 25), .ref (h 26), .int 0, .int 0, .ref (h 27), .ref (h 28), .ref (h 29), .ref (h 30), .ref (h 31), .int 0, .int 0, .ref (h 32), .ref (h 33), .ref (h 34), .ref (h 35), .ref (h 36), .ref (h 37)])), ((h 0), .inl (cy 1, 1720, .inl (fun _ => 0))), ((h 2), .inl (cy 0, 2, .inl (fun _ => 0))), ((h 3), .inl (cy 0, 2, .inl (fun _ => 0))), ((h 4), .inl (cy 0, 2, .inl (fun _ => 0))), ((h 5), .inl (cy 0, 2, .inl (f 0))), ((h 12), .inl (cy 2, 2, .inl (f 1))), ((h 7), .inl (cy 0, 1200, .inl (fun _ => 0))), ((h 8), .inl (cy 0, 1200, .inl (fun _ => 0))), ((h 20), .inl (cy 2, 8, .inl (fun _ => 0))), ((h 21), .inl (cy 0, 8, .inl (fun _ => 0))), ((h 32), .inl (cy 0, 3, .inl f_4)), ((h 33), .inl (cy 0, 120, .inl (fun _ => 0))), ((h 34), .inl (cy 0, 120, .inl (fun _ => 0))), ((h 35), .inl (cy 0, 24, .inl (fun _ => 0))), ((h 36), .inl (cy 2, 24, .inl (fun _ => 0))), ((h 37), .inl (cy 2, 3, .inl f_5))] H := hP
  replace hD : va_D A [(mo, .inr (12, [.ref (h 0), .ref (h 1), .int 0, .int 0, .int 0, .int (-1), .int 0, .int 0, .int 0, .int 0, .long 0, .ref (h 2), .ref (h 3), .ref (h 4), .ref (h 5), .ref (h 6), .ref (h 7), .ref (h 8), .ref (h 9), .ref (h 10), .ref (h 11), .ref (h 12), .ref (h 13), .ref (h 14), .ref (h 15), .ref (h 16), .ref (h 17), .ref (h 18), .ref (h 19), .int 0, .int 0, .int 0, .int 0, .int 0, .int 0, .ref (h 20), .ref (h 21), .int 0, .ref (h 22), .ref (h 23), .ref (h 24), .ref (h 25), .ref (h 26), .int 0, .int 0, .ref (h 27), .ref (h 28), .ref (h 29), .ref (h 30), .ref (h 31), .int 0, .int 0, .ref (h 32), .ref (h 33), .ref (h 34), .ref (h 35), .ref (h 36), .ref (h 37)])), ((h 0), .inl (cy 1, 1720, .inl (fun _ => 0))), ((h 2), .inl (cy 0, 2, .inl (fun _ => 0))), ((h 3), .inl (cy 0, 2, .inl (fun _ => 0))), ((h 4), .inl (cy 0, 2, .inl (fun _ => 0))), ((h 5), .inl (cy 0, 2, .inl (f 0))), ((h 12), .inl (cy 2, 2, .inl (f 1))), ((h 7), .inl (cy 0, 1200, .inl (fun _ => 0))), ((h 8), .inl (cy 0, 1200, .inl (fun _ => 0))), ((h 20), .inl (cy 2, 8, .inl (fun _ => 0))), ((h 21), .inl (cy 0, 8, .inl (fun _ => 0))), ((h 32), .inl (cy 0, 3, .inl f_4)), ((h 33), .inl (cy 0, 120, .inl (fun _ => 0))), ((h 34), .inl (cy 0, 120, .inl (fun _ => 0))), ((h 35), .inl (cy 0, 24, .inl (fun _ => 0))), ((h 36), .inl (cy 2, 24, .inl (fun _ => 0))), ((h 37), .inl (cy 2, 3, .inl f_5))] := hD
  refine lv_aload_n hx hb dX12_image_60 rfl (lv_at hl 1 rfl) ?_
  refine va_get (ci := 12) (v := .ref (h 34)) (C := RX12) (T := TX12) (N := 58) hx hb ht iX12 hown hK hP 0 rfl rfl 54 (by decide) (ht _ k_306) (fun _ h9 => h9) rfl dX12_image_61 ?_
  refine lv_bipush (v := 40) hx hb dX12_image_64 (by decide) ?_
  refine lv_iload_n hx hb dX12_image_66 rfl (lv_at hl 2 rfl) ?_
  refine lv_imul hx hb dX12_image_67 ?_
  refine ow_top 0 (by decide +kernel) ?_
  refine lv_iload_n hx hb dX12_image_68 rfl (lv_at hl 0 rfl) ?_
  refine lv_iadd hx hb dX12_image_69 ?_
  refine ow_top 39 (by decide +kernel) ?_
  refine lv_aload_n hx hb dX12_image_70 rfl (lv_at hl 1 rfl) ?_
  refine va_get (ci := 12) (v := .ref (h 8)) (C := RX12) (T := TX12) (N := 58) hx hb ht iX12 hown hK hP 0 rfl rfl 17 (by decide) (ht _ k_281) (fun _ h9 => h9) rfl dX12_image_71 ?_
  refine lv_sipush (v := 1120) hx hb dX12_image_74 (by decide) ?_
  refine lv_iload_n hx hb dX12_image_77 rfl (lv_at hl 0 rfl) ?_
  refine lv_iadd hx hb dX12_image_78 ?_
  refine ow_top 1159 (by decide +kernel) ?_
  refine va_iald hx hb hK hP 8 0 rfl rfl (in_lit (by decide +kernel)) dX12_image_79 ?_
  refine ow_top 0 rfl ?_
  refine ow_iastS hx hb hK hP hD hS 13 rfl (in_lit (by decide +kernel)) dX12_image_80 ?_
  clear hP hD hS
  try clear H locs
  intro H locs hP hD hS
  replace hP : va_P G vwCl [(mo, .inr (12, [.ref (h 0), .ref (h 1), .int 0, .int 0, .int 0, .int (-1), .int 0, .int 0, .int 0, .int 0, .long 0, .ref (h 2), .ref (h 3), .ref (h 4), .ref (h 5), .ref (h 6), .ref (h 7), .ref (h 8), .ref (h 9), .ref (h 10), .ref (h 11), .ref (h 12), .ref (h 13), .ref (h 14), .ref (h 15), .ref (h 16), .ref (h 17), .ref (h 18), .ref (h 19), .int 0, .int 0, .int 0, .int 0, .int 0, .int 0, .ref (h 20), .ref (h 21), .int 0, .ref (h 22), .ref (h 23), .ref (h 24), .ref (h 25), .ref (h 26), .int 0, .int 0, .ref (h 27), .ref (h 28), .ref (h 29), .ref (h 30), .ref (h 31), .int 0, .int 0, .ref (h 32), .ref (h 33), .ref (h 34), .ref (h 35), .ref (h 36), .ref (h 37)])), ((h 0), .inl (cy 1, 1720, .inl (fun _ => 0))), ((h 2), .inl (cy 0, 2, .inl (fun _ => 0))), ((h 3), .inl (cy 0, 2, .inl (fun _ => 0))), ((h 4), .inl (cy 0, 2, .inl (fun _ => 0))), ((h 5), .inl (cy 0, 2, .inl (f 0))), ((h 12), .inl (cy 2, 2, .inl (f 1))), ((h 7), .inl (cy 0, 1200, .inl (fun _ => 0))), ((h 8), .inl (cy 0, 1200, .inl (fun _ => 0))), ((h 20), .inl (cy 2, 8, .inl (fun _ => 0))), ((h 21), .inl (cy 0, 8, .inl (fun _ => 0))), ((h 32), .inl (cy 0, 3, .inl f_4)), ((h 33), .inl (cy 0, 120, .inl (fun _ => 0))), ((h 34), .inl (cy 0, 120, .inl (fun _ => 0))), ((h 35), .inl (cy 0, 24, .inl (fun _ => 0))), ((h 36), .inl (cy 2, 24, .inl (fun _ => 0))), ((h 37), .inl (cy 2, 3, .inl f_5))] H := hP
  replace hD : va_D A [(mo, .inr (12, [.ref (h 0), .ref (h 1), .int 0, .int 0, .int 0, .int (-1), .int 0, .int 0, .int 0, .int 0, .long 0, .ref (h 2), .ref (h 3), .ref (h 4), .ref (h 5), .ref (h 6), .ref (h 7), .ref (h 8), .ref (h 9), .ref (h 10), .ref (h 11), .ref (h 12), .ref (h 13), .ref (h 14), .ref (h 15), .ref (h 16), .ref (h 17), .ref (h 18), .ref (h 19), .int 0, .int 0, .int 0, .int 0, .int 0, .int 0, .ref (h 20), .ref (h 21), .int 0, .ref (h 22), .ref (h 23), .ref (h 24), .ref (h 25), .ref (h 26), .int 0, .int 0, .ref (h 27), .ref (h 28), .ref (h 29), .ref (h 30), .ref (h 31), .int 0, .int 0, .ref (h 32), .ref (h 33), .ref (h 34), .ref (h 35), .ref (h 36), .ref (h 37)])), ((h 0), .inl (cy 1, 1720, .inl (fun _ => 0))), ((h 2), .inl (cy 0, 2, .inl (fun _ => 0))), ((h 3), .inl (cy 0, 2, .inl (fun _ => 0))), ((h 4), .inl (cy 0, 2, .inl (fun _ => 0))), ((h 5), .inl (cy 0, 2, .inl (f 0))), ((h 12), .inl (cy 2, 2, .inl (f 1))), ((h 7), .inl (cy 0, 1200, .inl (fun _ => 0))), ((h 8), .inl (cy 0, 1200, .inl (fun _ => 0))), ((h 20), .inl (cy 2, 8, .inl (fun _ => 0))), ((h 21), .inl (cy 0, 8, .inl (fun _ => 0))), ((h 32), .inl (cy 0, 3, .inl f_4)), ((h 33), .inl (cy 0, 120, .inl (fun _ => 0))), ((h 34), .inl (cy 0, 120, .inl (fun _ => 0))), ((h 35), .inl (cy 0, 24, .inl (fun _ => 0))), ((h 36), .inl (cy 2, 24, .inl (fun _ => 0))), ((h 37), .inl (cy 2, 3, .inl f_5))] := hD
  refine lv_iinc (v := 40) (lv' := [(2, .int 40), (0, .ref mo), (1, .int 0)]) hx hb dX12_image_81 hl (k := 0) rfl (by decide) (by decide) rfl ?_
  clear hl
  try clear ls
  intro ls hl
  refine lv_goto (tgt := 33) hx hb dX12_image_84 (by decide) ?_
  refine lv_iload_n hx hb dX12_image_33 rfl (lv_at hl 0 rfl) ?_
  refine lv_bipush (v := 40) hx hb dX12_image_34 (by decide) ?_
  refine lv_icmp_ge (tgt := 87) hx hb dX12_image_36 (by decide) (fun _ => ?_) (fun c9 => absurd (by decide) c9)
  refine lv_iconst (v := 0) hx hb dX12_image_87 (by decide) ?_
  refine lv_istore_n (lv' := [(2, .int 0), (0, .ref mo), (1, .int 0)]) hx hb dX12_image_88 rfl hl (by decide) rfl ?_
  clear hl
  try clear ls
  intro ls hl
  refine lv_iload_n hx hb dX12_image_89 rfl (lv_at hl 0 rfl) ?_
  refine lv_bipush (v := 8) hx hb dX12_image_90 (by decide) ?_
  refine lv_icmp_ge (tgt := 135) hx hb dX12_image_92 (by decide) (fun c9 => absurd c9 (by decide)) (fun _ => ?_)
  refine lv_aload_n hx hb dX12_image_95 rfl (lv_at hl 1 rfl) ?_
  refine va_get (ci := 12) (v := .ref (h 36)) (C := RX12) (T := TX12) (N := 58) hx hb ht iX12 hown hK hP 0 rfl rfl 56 (by decide) (ht _ k_308) (fun _ h9 => h9) rfl dX12_image_96 ?_
  refine lv_bipush (v := 8) hx hb dX12_image_99 (by decide) ?_
  refine lv_iload_n hx hb dX12_image_101 rfl (lv_at hl 2 rfl) ?_
  refine lv_imul hx hb dX12_image_102 ?_
  refine ow_top 0 (by decide +kernel) ?_
  refine lv_iload_n hx hb dX12_image_103 rfl (lv_at hl 0 rfl) ?_
  refine lv_iadd hx hb dX12_image_104 ?_
  refine ow_top 0 (by decide +kernel) ?_
  refine lv_aload_n hx hb dX12_image_105 rfl (lv_at hl 1 rfl) ?_
  refine va_get (ci := 12) (v := .ref (h 20)) (C := RX12) (T := TX12) (N := 58) hx hb ht iX12 hown hK hP 0 rfl rfl 35 (by decide) (ht _ k_292) (fun _ h9 => h9) rfl dX12_image_106 ?_
  refine lv_iload_n hx hb dX12_image_109 rfl (lv_at hl 0 rfl) ?_
  refine va_zald hx hb hK hP 9 2 rfl rfl (in_lit (by decide +kernel)) dX12_image_110 ?_
  refine ow_top 0 rfl ?_
  refine ow_zast hx hb hK hP hD hS 15 rfl (in_lit (by decide +kernel)) dX12_image_111 ?_
  clear hP hD hS
  try clear H locs
  intro f_6 H locs hP hD hS
  replace hP : va_P G vwCl [(mo, .inr (12, [.ref (h 0), .ref (h 1), .int 0, .int 0, .int 0, .int (-1), .int 0, .int 0, .int 0, .int 0, .long 0, .ref (h 2), .ref (h 3), .ref (h 4), .ref (h 5), .ref (h 6), .ref (h 7), .ref (h 8), .ref (h 9), .ref (h 10), .ref (h 11), .ref (h 12), .ref (h 13), .ref (h 14), .ref (h 15), .ref (h 16), .ref (h 17), .ref (h 18), .ref (h 19), .int 0, .int 0, .int 0, .int 0, .int 0, .int 0, .ref (h 20), .ref (h 21), .int 0, .ref (h 22), .ref (h 23), .ref (h 24), .ref (h 25), .ref (h 26), .int 0, .int 0, .ref (h 27), .ref (h 28), .ref (h 29), .ref (h 30), .ref (h 31), .int 0, .int 0, .ref (h 32), .ref (h 33), .ref (h 34), .ref (h 35), .ref (h 36), .ref (h 37)])), ((h 0), .inl (cy 1, 1720, .inl (fun _ => 0))), ((h 2), .inl (cy 0, 2, .inl (fun _ => 0))), ((h 3), .inl (cy 0, 2, .inl (fun _ => 0))), ((h 4), .inl (cy 0, 2, .inl (fun _ => 0))), ((h 5), .inl (cy 0, 2, .inl (f 0))), ((h 12), .inl (cy 2, 2, .inl (f 1))), ((h 7), .inl (cy 0, 1200, .inl (fun _ => 0))), ((h 8), .inl (cy 0, 1200, .inl (fun _ => 0))), ((h 20), .inl (cy 2, 8, .inl (fun _ => 0))), ((h 21), .inl (cy 0, 8, .inl (fun _ => 0))), ((h 32), .inl (cy 0, 3, .inl f_4)), ((h 33), .inl (cy 0, 120, .inl (fun _ => 0))), ((h 34), .inl (cy 0, 120, .inl (fun _ => 0))), ((h 35), .inl (cy 0, 24, .inl (fun _ => 0))), ((h 36), .inl (cy 2, 24, .inl f_6)), ((h 37), .inl (cy 2, 3, .inl f_5))] H := hP
  replace hD : va_D A [(mo, .inr (12, [.ref (h 0), .ref (h 1), .int 0, .int 0, .int 0, .int (-1), .int 0, .int 0, .int 0, .int 0, .long 0, .ref (h 2), .ref (h 3), .ref (h 4), .ref (h 5), .ref (h 6), .ref (h 7), .ref (h 8), .ref (h 9), .ref (h 10), .ref (h 11), .ref (h 12), .ref (h 13), .ref (h 14), .ref (h 15), .ref (h 16), .ref (h 17), .ref (h 18), .ref (h 19), .int 0, .int 0, .int 0, .int 0, .int 0, .int 0, .ref (h 20), .ref (h 21), .int 0, .ref (h 22), .ref (h 23), .ref (h 24), .ref (h 25), .ref (h 26), .int 0, .int 0, .ref (h 27), .ref (h 28), .ref (h 29), .ref (h 30), .ref (h 31), .int 0, .int 0, .ref (h 32), .ref (h 33), .ref (h 34), .ref (h 35), .ref (h 36), .ref (h 37)])), ((h 0), .inl (cy 1, 1720, .inl (fun _ => 0))), ((h 2), .inl (cy 0, 2, .inl (fun _ => 0))), ((h 3), .inl (cy 0, 2, .inl (fun _ => 0))), ((h 4), .inl (cy 0, 2, .inl (fun _ => 0))), ((h 5), .inl (cy 0, 2, .inl (f 0))), ((h 12), .inl (cy 2, 2, .inl (f 1))), ((h 7), .inl (cy 0, 1200, .inl (fun _ => 0))), ((h 8), .inl (cy 0, 1200, .inl (fun _ => 0))), ((h 20), .inl (cy 2, 8, .inl (fun _ => 0))), ((h 21), .inl (cy 0, 8, .inl (fun _ => 0))), ((h 32), .inl (cy 0, 3, .inl f_4)), ((h 33), .inl (cy 0, 120, .inl (fun _ => 0))), ((h 34), .inl (cy 0, 120, .inl (fun _ => 0))), ((h 35), .inl (cy 0, 24, .inl (fun _ => 0))), ((h 36), .inl (cy 2, 24, .inl f_6)), ((h 37), .inl (cy 2, 3, .inl f_5))] := hD
  refine lv_aload_n hx hb dX12_image_112 rfl (lv_at hl 1 rfl) ?_
  refine va_get (ci := 12) (v := .ref (h 35)) (C := RX12) (T := TX12) (N := 58) hx hb ht iX12 hown hK hP 0 rfl rfl 55 (by decide) (ht _ k_307) (fun _ h9 => h9) rfl dX12_image_113 ?_
  refine lv_bipush (v := 8) hx hb dX12_image_116 (by decide) ?_
  refine lv_iload_n hx hb dX12_image_118 rfl (lv_at hl 2 rfl) ?_
  refine lv_imul hx hb dX12_image_119 ?_
  refine ow_top 0 (by decide +kernel) ?_
  refine lv_iload_n hx hb dX12_image_120 rfl (lv_at hl 0 rfl) ?_
  refine lv_iadd hx hb dX12_image_121 ?_
  refine ow_top 0 (by decide +kernel) ?_
  refine lv_aload_n hx hb dX12_image_122 rfl (lv_at hl 1 rfl) ?_
  refine va_get (ci := 12) (v := .ref (h 21)) (C := RX12) (T := TX12) (N := 58) hx hb ht iX12 hown hK hP 0 rfl rfl 36 (by decide) (ht _ k_293) (fun _ h9 => h9) rfl dX12_image_123 ?_
  refine lv_iload_n hx hb dX12_image_126 rfl (lv_at hl 0 rfl) ?_
  refine va_iald hx hb hK hP 10 0 rfl rfl (in_lit (by decide +kernel)) dX12_image_127 ?_
  refine ow_top 0 rfl ?_
  refine ow_iastS hx hb hK hP hD hS 14 rfl (in_lit (by decide +kernel)) dX12_image_128 ?_
  clear hP hD hS
  try clear H locs
  intro H locs hP hD hS
  replace hP : va_P G vwCl [(mo, .inr (12, [.ref (h 0), .ref (h 1), .int 0, .int 0, .int 0, .int (-1), .int 0, .int 0, .int 0, .int 0, .long 0, .ref (h 2), .ref (h 3), .ref (h 4), .ref (h 5), .ref (h 6), .ref (h 7), .ref (h 8), .ref (h 9), .ref (h 10), .ref (h 11), .ref (h 12), .ref (h 13), .ref (h 14), .ref (h 15), .ref (h 16), .ref (h 17), .ref (h 18), .ref (h 19), .int 0, .int 0, .int 0, .int 0, .int 0, .int 0, .ref (h 20), .ref (h 21), .int 0, .ref (h 22), .ref (h 23), .ref (h 24), .ref (h 25), .ref (h 26), .int 0, .int 0, .ref (h 27), .ref (h 28), .ref (h 29), .ref (h 30), .ref (h 31), .int 0, .int 0, .ref (h 32), .ref (h 33), .ref (h 34), .ref (h 35), .ref (h 36), .ref (h 37)])), ((h 0), .inl (cy 1, 1720, .inl (fun _ => 0))), ((h 2), .inl (cy 0, 2, .inl (fun _ => 0))), ((h 3), .inl (cy 0, 2, .inl (fun _ => 0))), ((h 4), .inl (cy 0, 2, .inl (fun _ => 0))), ((h 5), .inl (cy 0, 2, .inl (f 0))), ((h 12), .inl (cy 2, 2, .inl (f 1))), ((h 7), .inl (cy 0, 1200, .inl (fun _ => 0))), ((h 8), .inl (cy 0, 1200, .inl (fun _ => 0))), ((h 20), .inl (cy 2, 8, .inl (fun _ => 0))), ((h 21), .inl (cy 0, 8, .inl (fun _ => 0))), ((h 32), .inl (cy 0, 3, .inl f_4)), ((h 33), .inl (cy 0, 120, .inl (fun _ => 0))), ((h 34), .inl (cy 0, 120, .inl (fun _ => 0))), ((h 35), .inl (cy 0, 24, .inl (fun _ => 0))), ((h 36), .inl (cy 2, 24, .inl f_6)), ((h 37), .inl (cy 2, 3, .inl f_5))] H := hP
  replace hD : va_D A [(mo, .inr (12, [.ref (h 0), .ref (h 1), .int 0, .int 0, .int 0, .int (-1), .int 0, .int 0, .int 0, .int 0, .long 0, .ref (h 2), .ref (h 3), .ref (h 4), .ref (h 5), .ref (h 6), .ref (h 7), .ref (h 8), .ref (h 9), .ref (h 10), .ref (h 11), .ref (h 12), .ref (h 13), .ref (h 14), .ref (h 15), .ref (h 16), .ref (h 17), .ref (h 18), .ref (h 19), .int 0, .int 0, .int 0, .int 0, .int 0, .int 0, .ref (h 20), .ref (h 21), .int 0, .ref (h 22), .ref (h 23), .ref (h 24), .ref (h 25), .ref (h 26), .int 0, .int 0, .ref (h 27), .ref (h 28), .ref (h 29), .ref (h 30), .ref (h 31), .int 0, .int 0, .ref (h 32), .ref (h 33), .ref (h 34), .ref (h 35), .ref (h 36), .ref (h 37)])), ((h 0), .inl (cy 1, 1720, .inl (fun _ => 0))), ((h 2), .inl (cy 0, 2, .inl (fun _ => 0))), ((h 3), .inl (cy 0, 2, .inl (fun _ => 0))), ((h 4), .inl (cy 0, 2, .inl (fun _ => 0))), ((h 5), .inl (cy 0, 2, .inl (f 0))), ((h 12), .inl (cy 2, 2, .inl (f 1))), ((h 7), .inl (cy 0, 1200, .inl (fun _ => 0))), ((h 8), .inl (cy 0, 1200, .inl (fun _ => 0))), ((h 20), .inl (cy 2, 8, .inl (fun _ => 0))), ((h 21), .inl (cy 0, 8, .inl (fun _ => 0))), ((h 32), .inl (cy 0, 3, .inl f_4)), ((h 33), .inl (cy 0, 120, .inl (fun _ => 0))), ((h 34), .inl (cy 0, 120, .inl (fun _ => 0))), ((h 35), .inl (cy 0, 24, .inl (fun _ => 0))), ((h 36), .inl (cy 2, 24, .inl f_6)), ((h 37), .inl (cy 2, 3, .inl f_5))] := hD
  refine lv_iinc (v := 1) (lv' := [(2, .int 1), (0, .ref mo), (1, .int 0)]) hx hb dX12_image_129 hl (k := 0) rfl (by decide) (by decide) rfl ?_
  clear hl
  try clear ls
  intro ls hl
  refine lv_goto (tgt := 89) hx hb dX12_image_132 (by decide) ?_
  refine lv_iload_n hx hb dX12_image_89 rfl (lv_at hl 0 rfl) ?_
  refine lv_bipush (v := 8) hx hb dX12_image_90 (by decide) ?_
  refine lv_icmp_ge (tgt := 135) hx hb dX12_image_92 (by decide) (fun c9 => absurd c9 (by decide)) (fun _ => ?_)
  refine lv_aload_n hx hb dX12_image_95 rfl (lv_at hl 1 rfl) ?_
  refine va_get (ci := 12) (v := .ref (h 36)) (C := RX12) (T := TX12) (N := 58) hx hb ht iX12 hown hK hP 0 rfl rfl 56 (by decide) (ht _ k_308) (fun _ h9 => h9) rfl dX12_image_96 ?_
  refine lv_bipush (v := 8) hx hb dX12_image_99 (by decide) ?_
  refine lv_iload_n hx hb dX12_image_101 rfl (lv_at hl 2 rfl) ?_
  refine lv_imul hx hb dX12_image_102 ?_
  refine ow_top 0 (by decide +kernel) ?_
  refine lv_iload_n hx hb dX12_image_103 rfl (lv_at hl 0 rfl) ?_
  refine lv_iadd hx hb dX12_image_104 ?_
  refine ow_top 1 (by decide +kernel) ?_
  refine lv_aload_n hx hb dX12_image_105 rfl (lv_at hl 1 rfl) ?_
  refine va_get (ci := 12) (v := .ref (h 20)) (C := RX12) (T := TX12) (N := 58) hx hb ht iX12 hown hK hP 0 rfl rfl 35 (by decide) (ht _ k_292) (fun _ h9 => h9) rfl dX12_image_106 ?_
  refine lv_iload_n hx hb dX12_image_109 rfl (lv_at hl 0 rfl) ?_
  refine va_zald hx hb hK hP 9 2 rfl rfl (in_lit (by decide +kernel)) dX12_image_110 ?_
  refine ow_top 0 rfl ?_
  refine ow_zast hx hb hK hP hD hS 15 rfl (in_lit (by decide +kernel)) dX12_image_111 ?_
  clear hP hD hS
  try clear H locs
  intro f_7 H locs hP hD hS
  replace hP : va_P G vwCl [(mo, .inr (12, [.ref (h 0), .ref (h 1), .int 0, .int 0, .int 0, .int (-1), .int 0, .int 0, .int 0, .int 0, .long 0, .ref (h 2), .ref (h 3), .ref (h 4), .ref (h 5), .ref (h 6), .ref (h 7), .ref (h 8), .ref (h 9), .ref (h 10), .ref (h 11), .ref (h 12), .ref (h 13), .ref (h 14), .ref (h 15), .ref (h 16), .ref (h 17), .ref (h 18), .ref (h 19), .int 0, .int 0, .int 0, .int 0, .int 0, .int 0, .ref (h 20), .ref (h 21), .int 0, .ref (h 22), .ref (h 23), .ref (h 24), .ref (h 25), .ref (h 26), .int 0, .int 0, .ref (h 27), .ref (h 28), .ref (h 29), .ref (h 30), .ref (h 31), .int 0, .int 0, .ref (h 32), .ref (h 33), .ref (h 34), .ref (h 35), .ref (h 36), .ref (h 37)])), ((h 0), .inl (cy 1, 1720, .inl (fun _ => 0))), ((h 2), .inl (cy 0, 2, .inl (fun _ => 0))), ((h 3), .inl (cy 0, 2, .inl (fun _ => 0))), ((h 4), .inl (cy 0, 2, .inl (fun _ => 0))), ((h 5), .inl (cy 0, 2, .inl (f 0))), ((h 12), .inl (cy 2, 2, .inl (f 1))), ((h 7), .inl (cy 0, 1200, .inl (fun _ => 0))), ((h 8), .inl (cy 0, 1200, .inl (fun _ => 0))), ((h 20), .inl (cy 2, 8, .inl (fun _ => 0))), ((h 21), .inl (cy 0, 8, .inl (fun _ => 0))), ((h 32), .inl (cy 0, 3, .inl f_4)), ((h 33), .inl (cy 0, 120, .inl (fun _ => 0))), ((h 34), .inl (cy 0, 120, .inl (fun _ => 0))), ((h 35), .inl (cy 0, 24, .inl (fun _ => 0))), ((h 36), .inl (cy 2, 24, .inl f_7)), ((h 37), .inl (cy 2, 3, .inl f_5))] H := hP
  replace hD : va_D A [(mo, .inr (12, [.ref (h 0), .ref (h 1), .int 0, .int 0, .int 0, .int (-1), .int 0, .int 0, .int 0, .int 0, .long 0, .ref (h 2), .ref (h 3), .ref (h 4), .ref (h 5), .ref (h 6), .ref (h 7), .ref (h 8), .ref (h 9), .ref (h 10), .ref (h 11), .ref (h 12), .ref (h 13), .ref (h 14), .ref (h 15), .ref (h 16), .ref (h 17), .ref (h 18), .ref (h 19), .int 0, .int 0, .int 0, .int 0, .int 0, .int 0, .ref (h 20), .ref (h 21), .int 0, .ref (h 22), .ref (h 23), .ref (h 24), .ref (h 25), .ref (h 26), .int 0, .int 0, .ref (h 27), .ref (h 28), .ref (h 29), .ref (h 30), .ref (h 31), .int 0, .int 0, .ref (h 32), .ref (h 33), .ref (h 34), .ref (h 35), .ref (h 36), .ref (h 37)])), ((h 0), .inl (cy 1, 1720, .inl (fun _ => 0))), ((h 2), .inl (cy 0, 2, .inl (fun _ => 0))), ((h 3), .inl (cy 0, 2, .inl (fun _ => 0))), ((h 4), .inl (cy 0, 2, .inl (fun _ => 0))), ((h 5), .inl (cy 0, 2, .inl (f 0))), ((h 12), .inl (cy 2, 2, .inl (f 1))), ((h 7), .inl (cy 0, 1200, .inl (fun _ => 0))), ((h 8), .inl (cy 0, 1200, .inl (fun _ => 0))), ((h 20), .inl (cy 2, 8, .inl (fun _ => 0))), ((h 21), .inl (cy 0, 8, .inl (fun _ => 0))), ((h 32), .inl (cy 0, 3, .inl f_4)), ((h 33), .inl (cy 0, 120, .inl (fun _ => 0))), ((h 34), .inl (cy 0, 120, .inl (fun _ => 0))), ((h 35), .inl (cy 0, 24, .inl (fun _ => 0))), ((h 36), .inl (cy 2, 24, .inl f_7)), ((h 37), .inl (cy 2, 3, .inl f_5))] := hD
  refine lv_aload_n hx hb dX12_image_112 rfl (lv_at hl 1 rfl) ?_
  refine va_get (ci := 12) (v := .ref (h 35)) (C := RX12) (T := TX12) (N := 58) hx hb ht iX12 hown hK hP 0 rfl rfl 55 (by decide) (ht _ k_307) (fun _ h9 => h9) rfl dX12_image_113 ?_
  refine lv_bipush (v := 8) hx hb dX12_image_116 (by decide) ?_
  refine lv_iload_n hx hb dX12_image_118 rfl (lv_at hl 2 rfl) ?_
  refine lv_imul hx hb dX12_image_119 ?_
  refine ow_top 0 (by decide +kernel) ?_
  refine lv_iload_n hx hb dX12_image_120 rfl (lv_at hl 0 rfl) ?_
  refine lv_iadd hx hb dX12_image_121 ?_
  refine ow_top 1 (by decide +kernel) ?_
  refine lv_aload_n hx hb dX12_image_122 rfl (lv_at hl 1 rfl) ?_
  refine va_get (ci := 12) (v := .ref (h 21)) (C := RX12) (T := TX12) (N := 58) hx hb ht iX12 hown hK hP 0 rfl rfl 36 (by decide) (ht _ k_293) (fun _ h9 => h9) rfl dX12_image_123 ?_
  refine lv_iload_n hx hb dX12_image_126 rfl (lv_at hl 0 rfl) ?_
  refine va_iald hx hb hK hP 10 0 rfl rfl (in_lit (by decide +kernel)) dX12_image_127 ?_
  refine ow_top 0 rfl ?_
  refine ow_iastS hx hb hK hP hD hS 14 rfl (in_lit (by decide +kernel)) dX12_image_128 ?_
  clear hP hD hS
  try clear H locs
  intro H locs hP hD hS
  replace hP : va_P G vwCl [(mo, .inr (12, [.ref (h 0), .ref (h 1), .int 0, .int 0, .int 0, .int (-1), .int 0, .int 0, .int 0, .int 0, .long 0, .ref (h 2), .ref (h 3), .ref (h 4), .ref (h 5), .ref (h 6), .ref (h 7), .ref (h 8), .ref (h 9), .ref (h 10), .ref (h 11), .ref (h 12), .ref (h 13), .ref (h 14), .ref (h 15), .ref (h 16), .ref (h 17), .ref (h 18), .ref (h 19), .int 0, .int 0, .int 0, .int 0, .int 0, .int 0, .ref (h 20), .ref (h 21), .int 0, .ref (h 22), .ref (h 23), .ref (h 24), .ref (h 25), .ref (h 26), .int 0, .int 0, .ref (h 27), .ref (h 28), .ref (h 29), .ref (h 30), .ref (h 31), .int 0, .int 0, .ref (h 32), .ref (h 33), .ref (h 34), .ref (h 35), .ref (h 36), .ref (h 37)])), ((h 0), .inl (cy 1, 1720, .inl (fun _ => 0))), ((h 2), .inl (cy 0, 2, .inl (fun _ => 0))), ((h 3), .inl (cy 0, 2, .inl (fun _ => 0))), ((h 4), .inl (cy 0, 2, .inl (fun _ => 0))), ((h 5), .inl (cy 0, 2, .inl (f 0))), ((h 12), .inl (cy 2, 2, .inl (f 1))), ((h 7), .inl (cy 0, 1200, .inl (fun _ => 0))), ((h 8), .inl (cy 0, 1200, .inl (fun _ => 0))), ((h 20), .inl (cy 2, 8, .inl (fun _ => 0))), ((h 21), .inl (cy 0, 8, .inl (fun _ => 0))), ((h 32), .inl (cy 0, 3, .inl f_4)), ((h 33), .inl (cy 0, 120, .inl (fun _ => 0))), ((h 34), .inl (cy 0, 120, .inl (fun _ => 0))), ((h 35), .inl (cy 0, 24, .inl (fun _ => 0))), ((h 36), .inl (cy 2, 24, .inl f_7)), ((h 37), .inl (cy 2, 3, .inl f_5))] H := hP
  replace hD : va_D A [(mo, .inr (12, [.ref (h 0), .ref (h 1), .int 0, .int 0, .int 0, .int (-1), .int 0, .int 0, .int 0, .int 0, .long 0, .ref (h 2), .ref (h 3), .ref (h 4), .ref (h 5), .ref (h 6), .ref (h 7), .ref (h 8), .ref (h 9), .ref (h 10), .ref (h 11), .ref (h 12), .ref (h 13), .ref (h 14), .ref (h 15), .ref (h 16), .ref (h 17), .ref (h 18), .ref (h 19), .int 0, .int 0, .int 0, .int 0, .int 0, .int 0, .ref (h 20), .ref (h 21), .int 0, .ref (h 22), .ref (h 23), .ref (h 24), .ref (h 25), .ref (h 26), .int 0, .int 0, .ref (h 27), .ref (h 28), .ref (h 29), .ref (h 30), .ref (h 31), .int 0, .int 0, .ref (h 32), .ref (h 33), .ref (h 34), .ref (h 35), .ref (h 36), .ref (h 37)])), ((h 0), .inl (cy 1, 1720, .inl (fun _ => 0))), ((h 2), .inl (cy 0, 2, .inl (fun _ => 0))), ((h 3), .inl (cy 0, 2, .inl (fun _ => 0))), ((h 4), .inl (cy 0, 2, .inl (fun _ => 0))), ((h 5), .inl (cy 0, 2, .inl (f 0))), ((h 12), .inl (cy 2, 2, .inl (f 1))), ((h 7), .inl (cy 0, 1200, .inl (fun _ => 0))), ((h 8), .inl (cy 0, 1200, .inl (fun _ => 0))), ((h 20), .inl (cy 2, 8, .inl (fun _ => 0))), ((h 21), .inl (cy 0, 8, .inl (fun _ => 0))), ((h 32), .inl (cy 0, 3, .inl f_4)), ((h 33), .inl (cy 0, 120, .inl (fun _ => 0))), ((h 34), .inl (cy 0, 120, .inl (fun _ => 0))), ((h 35), .inl (cy 0, 24, .inl (fun _ => 0))), ((h 36), .inl (cy 2, 24, .inl f_7)), ((h 37), .inl (cy 2, 3, .inl f_5))] := hD
  refine lv_iinc (v := 2) (lv' := [(2, .int 2), (0, .ref mo), (1, .int 0)]) hx hb dX12_image_129 hl (k := 0) rfl (by decide) (by decide) rfl ?_
  clear hl
  try clear ls
  intro ls hl
  refine lv_goto (tgt := 89) hx hb dX12_image_132 (by decide) ?_
  refine lv_iload_n hx hb dX12_image_89 rfl (lv_at hl 0 rfl) ?_
  refine lv_bipush (v := 8) hx hb dX12_image_90 (by decide) ?_
  refine lv_icmp_ge (tgt := 135) hx hb dX12_image_92 (by decide) (fun c9 => absurd c9 (by decide)) (fun _ => ?_)
  refine lv_aload_n hx hb dX12_image_95 rfl (lv_at hl 1 rfl) ?_
  refine va_get (ci := 12) (v := .ref (h 36)) (C := RX12) (T := TX12) (N := 58) hx hb ht iX12 hown hK hP 0 rfl rfl 56 (by decide) (ht _ k_308) (fun _ h9 => h9) rfl dX12_image_96 ?_
  refine lv_bipush (v := 8) hx hb dX12_image_99 (by decide) ?_
  refine lv_iload_n hx hb dX12_image_101 rfl (lv_at hl 2 rfl) ?_
  refine lv_imul hx hb dX12_image_102 ?_
  refine ow_top 0 (by decide +kernel) ?_
  refine lv_iload_n hx hb dX12_image_103 rfl (lv_at hl 0 rfl) ?_
  refine lv_iadd hx hb dX12_image_104 ?_
  refine ow_top 2 (by decide +kernel) ?_
  refine lv_aload_n hx hb dX12_image_105 rfl (lv_at hl 1 rfl) ?_
  refine va_get (ci := 12) (v := .ref (h 20)) (C := RX12) (T := TX12) (N := 58) hx hb ht iX12 hown hK hP 0 rfl rfl 35 (by decide) (ht _ k_292) (fun _ h9 => h9) rfl dX12_image_106 ?_
  refine lv_iload_n hx hb dX12_image_109 rfl (lv_at hl 0 rfl) ?_
  refine va_zald hx hb hK hP 9 2 rfl rfl (in_lit (by decide +kernel)) dX12_image_110 ?_
  refine ow_top 0 rfl ?_
  refine ow_zast hx hb hK hP hD hS 15 rfl (in_lit (by decide +kernel)) dX12_image_111 ?_
  clear hP hD hS
  try clear H locs
  intro f_8 H locs hP hD hS
  replace hP : va_P G vwCl [(mo, .inr (12, [.ref (h 0), .ref (h 1), .int 0, .int 0, .int 0, .int (-1), .int 0, .int 0, .int 0, .int 0, .long 0, .ref (h 2), .ref (h 3), .ref (h 4), .ref (h 5), .ref (h 6), .ref (h 7), .ref (h 8), .ref (h 9), .ref (h 10), .ref (h 11), .ref (h 12), .ref (h 13), .ref (h 14), .ref (h 15), .ref (h 16), .ref (h 17), .ref (h 18), .ref (h 19), .int 0, .int 0, .int 0, .int 0, .int 0, .int 0, .ref (h 20), .ref (h 21), .int 0, .ref (h 22), .ref (h 23), .ref (h 24), .ref (h 25), .ref (h 26), .int 0, .int 0, .ref (h 27), .ref (h 28), .ref (h 29), .ref (h 30), .ref (h 31), .int 0, .int 0, .ref (h 32), .ref (h 33), .ref (h 34), .ref (h 35), .ref (h 36), .ref (h 37)])), ((h 0), .inl (cy 1, 1720, .inl (fun _ => 0))), ((h 2), .inl (cy 0, 2, .inl (fun _ => 0))), ((h 3), .inl (cy 0, 2, .inl (fun _ => 0))), ((h 4), .inl (cy 0, 2, .inl (fun _ => 0))), ((h 5), .inl (cy 0, 2, .inl (f 0))), ((h 12), .inl (cy 2, 2, .inl (f 1))), ((h 7), .inl (cy 0, 1200, .inl (fun _ => 0))), ((h 8), .inl (cy 0, 1200, .inl (fun _ => 0))), ((h 20), .inl (cy 2, 8, .inl (fun _ => 0))), ((h 21), .inl (cy 0, 8, .inl (fun _ => 0))), ((h 32), .inl (cy 0, 3, .inl f_4)), ((h 33), .inl (cy 0, 120, .inl (fun _ => 0))), ((h 34), .inl (cy 0, 120, .inl (fun _ => 0))), ((h 35), .inl (cy 0, 24, .inl (fun _ => 0))), ((h 36), .inl (cy 2, 24, .inl f_8)), ((h 37), .inl (cy 2, 3, .inl f_5))] H := hP
  replace hD : va_D A [(mo, .inr (12, [.ref (h 0), .ref (h 1), .int 0, .int 0, .int 0, .int (-1), .int 0, .int 0, .int 0, .int 0, .long 0, .ref (h 2), .ref (h 3), .ref (h 4), .ref (h 5), .ref (h 6), .ref (h 7), .ref (h 8), .ref (h 9), .ref (h 10), .ref (h 11), .ref (h 12), .ref (h 13), .ref (h 14), .ref (h 15), .ref (h 16), .ref (h 17), .ref (h 18), .ref (h 19), .int 0, .int 0, .int 0, .int 0, .int 0, .int 0, .ref (h 20), .ref (h 21), .int 0, .ref (h 22), .ref (h 23), .ref (h 24), .ref (h 25), .ref (h 26), .int 0, .int 0, .ref (h 27), .ref (h 28), .ref (h 29), .ref (h 30), .ref (h 31), .int 0, .int 0, .ref (h 32), .ref (h 33), .ref (h 34), .ref (h 35), .ref (h 36), .ref (h 37)])), ((h 0), .inl (cy 1, 1720, .inl (fun _ => 0))), ((h 2), .inl (cy 0, 2, .inl (fun _ => 0))), ((h 3), .inl (cy 0, 2, .inl (fun _ => 0))), ((h 4), .inl (cy 0, 2, .inl (fun _ => 0))), ((h 5), .inl (cy 0, 2, .inl (f 0))), ((h 12), .inl (cy 2, 2, .inl (f 1))), ((h 7), .inl (cy 0, 1200, .inl (fun _ => 0))), ((h 8), .inl (cy 0, 1200, .inl (fun _ => 0))), ((h 20), .inl (cy 2, 8, .inl (fun _ => 0))), ((h 21), .inl (cy 0, 8, .inl (fun _ => 0))), ((h 32), .inl (cy 0, 3, .inl f_4)), ((h 33), .inl (cy 0, 120, .inl (fun _ => 0))), ((h 34), .inl (cy 0, 120, .inl (fun _ => 0))), ((h 35), .inl (cy 0, 24, .inl (fun _ => 0))), ((h 36), .inl (cy 2, 24, .inl f_8)), ((h 37), .inl (cy 2, 3, .inl f_5))] := hD
  refine lv_aload_n hx hb dX12_image_112 rfl (lv_at hl 1 rfl) ?_
  refine va_get (ci := 12) (v := .ref (h 35)) (C := RX12) (T := TX12) (N := 58) hx hb ht iX12 hown hK hP 0 rfl rfl 55 (by decide) (ht _ k_307) (fun _ h9 => h9) rfl dX12_image_113 ?_
  refine lv_bipush (v := 8) hx hb dX12_image_116 (by decide) ?_
  refine lv_iload_n hx hb dX12_image_118 rfl (lv_at hl 2 rfl) ?_
  refine lv_imul hx hb dX12_image_119 ?_
  refine ow_top 0 (by decide +kernel) ?_
  refine lv_iload_n hx hb dX12_image_120 rfl (lv_at hl 0 rfl) ?_
  refine lv_iadd hx hb dX12_image_121 ?_
  refine ow_top 2 (by decide +kernel) ?_
  refine lv_aload_n hx hb dX12_image_122 rfl (lv_at hl 1 rfl) ?_
  refine va_get (ci := 12) (v := .ref (h 21)) (C := RX12) (T := TX12) (N := 58) hx hb ht iX12 hown hK hP 0 rfl rfl 36 (by decide) (ht _ k_293) (fun _ h9 => h9) rfl dX12_image_123 ?_
  refine lv_iload_n hx hb dX12_image_126 rfl (lv_at hl 0 rfl) ?_
  refine va_iald hx hb hK hP 10 0 rfl rfl (in_lit (by decide +kernel)) dX12_image_127 ?_
  refine ow_top 0 rfl ?_
  refine ow_iastS hx hb hK hP hD hS 14 rfl (in_lit (by decide +kernel)) dX12_image_128 ?_
  clear hP hD hS
  try clear H locs
  intro H locs hP hD hS
  replace hP : va_P G vwCl [(mo, .inr (12, [.ref (h 0), .ref (h 1), .int 0, .int 0, .int 0, .int (-1), .int 0, .int 0, .int 0, .int 0, .long 0, .ref (h 2), .ref (h 3), .ref (h 4), .ref (h 5), .ref (h 6), .ref (h 7), .ref (h 8), .ref (h 9), .ref (h 10), .ref (h 11), .ref (h 12), .ref (h 13), .ref (h 14), .ref (h 15), .ref (h 16), .ref (h 17), .ref (h 18), .ref (h 19), .int 0, .int 0, .int 0, .int 0, .int 0, .int 0, .ref (h 20), .ref (h 21), .int 0, .ref (h 22), .ref (h 23), .ref (h 24), .ref (h 25), .ref (h 26), .int 0, .int 0, .ref (h 27), .ref (h 28), .ref (h 29), .ref (h 30), .ref (h 31), .int 0, .int 0, .ref (h 32), .ref (h 33), .ref (h 34), .ref (h 35), .ref (h 36), .ref (h 37)])), ((h 0), .inl (cy 1, 1720, .inl (fun _ => 0))), ((h 2), .inl (cy 0, 2, .inl (fun _ => 0))), ((h 3), .inl (cy 0, 2, .inl (fun _ => 0))), ((h 4), .inl (cy 0, 2, .inl (fun _ => 0))), ((h 5), .inl (cy 0, 2, .inl (f 0))), ((h 12), .inl (cy 2, 2, .inl (f 1))), ((h 7), .inl (cy 0, 1200, .inl (fun _ => 0))), ((h 8), .inl (cy 0, 1200, .inl (fun _ => 0))), ((h 20), .inl (cy 2, 8, .inl (fun _ => 0))), ((h 21), .inl (cy 0, 8, .inl (fun _ => 0))), ((h 32), .inl (cy 0, 3, .inl f_4)), ((h 33), .inl (cy 0, 120, .inl (fun _ => 0))), ((h 34), .inl (cy 0, 120, .inl (fun _ => 0))), ((h 35), .inl (cy 0, 24, .inl (fun _ => 0))), ((h 36), .inl (cy 2, 24, .inl f_8)), ((h 37), .inl (cy 2, 3, .inl f_5))] H := hP
  replace hD : va_D A [(mo, .inr (12, [.ref (h 0), .ref (h 1), .int 0, .int 0, .int 0, .int (-1), .int 0, .int 0, .int 0, .int 0, .long 0, .ref (h 2), .ref (h 3), .ref (h 4), .ref (h 5), .ref (h 6), .ref (h 7), .ref (h 8), .ref (h 9), .ref (h 10), .ref (h 11), .ref (h 12), .ref (h 13), .ref (h 14), .ref (h 15), .ref (h 16), .ref (h 17), .ref (h 18), .ref (h 19), .int 0, .int 0, .int 0, .int 0, .int 0, .int 0, .ref (h 20), .ref (h 21), .int 0, .ref (h 22), .ref (h 23), .ref (h 24), .ref (h 25), .ref (h 26), .int 0, .int 0, .ref (h 27), .ref (h 28), .ref (h 29), .ref (h 30), .ref (h 31), .int 0, .int 0, .ref (h 32), .ref (h 33), .ref (h 34), .ref (h 35), .ref (h 36), .ref (h 37)])), ((h 0), .inl (cy 1, 1720, .inl (fun _ => 0))), ((h 2), .inl (cy 0, 2, .inl (fun _ => 0))), ((h 3), .inl (cy 0, 2, .inl (fun _ => 0))), ((h 4), .inl (cy 0, 2, .inl (fun _ => 0))), ((h 5), .inl (cy 0, 2, .inl (f 0))), ((h 12), .inl (cy 2, 2, .inl (f 1))), ((h 7), .inl (cy 0, 1200, .inl (fun _ => 0))), ((h 8), .inl (cy 0, 1200, .inl (fun _ => 0))), ((h 20), .inl (cy 2, 8, .inl (fun _ => 0))), ((h 21), .inl (cy 0, 8, .inl (fun _ => 0))), ((h 32), .inl (cy 0, 3, .inl f_4)), ((h 33), .inl (cy 0, 120, .inl (fun _ => 0))), ((h 34), .inl (cy 0, 120, .inl (fun _ => 0))), ((h 35), .inl (cy 0, 24, .inl (fun _ => 0))), ((h 36), .inl (cy 2, 24, .inl f_8)), ((h 37), .inl (cy 2, 3, .inl f_5))] := hD
  refine lv_iinc (v := 3) (lv' := [(2, .int 3), (0, .ref mo), (1, .int 0)]) hx hb dX12_image_129 hl (k := 0) rfl (by decide) (by decide) rfl ?_
  clear hl
  try clear ls
  intro ls hl
  refine lv_goto (tgt := 89) hx hb dX12_image_132 (by decide) ?_
  refine lv_iload_n hx hb dX12_image_89 rfl (lv_at hl 0 rfl) ?_
  refine lv_bipush (v := 8) hx hb dX12_image_90 (by decide) ?_
  refine lv_icmp_ge (tgt := 135) hx hb dX12_image_92 (by decide) (fun c9 => absurd c9 (by decide)) (fun _ => ?_)
  refine lv_aload_n hx hb dX12_image_95 rfl (lv_at hl 1 rfl) ?_
  refine va_get (ci := 12) (v := .ref (h 36)) (C := RX12) (T := TX12) (N := 58) hx hb ht iX12 hown hK hP 0 rfl rfl 56 (by decide) (ht _ k_308) (fun _ h9 => h9) rfl dX12_image_96 ?_
  refine lv_bipush (v := 8) hx hb dX12_image_99 (by decide) ?_
  refine lv_iload_n hx hb dX12_image_101 rfl (lv_at hl 2 rfl) ?_
  refine lv_imul hx hb dX12_image_102 ?_
  refine ow_top 0 (by decide +kernel) ?_
  refine lv_iload_n hx hb dX12_image_103 rfl (lv_at hl 0 rfl) ?_
  refine lv_iadd hx hb dX12_image_104 ?_
  refine ow_top 3 (by decide +kernel) ?_
  refine lv_aload_n hx hb dX12_image_105 rfl (lv_at hl 1 rfl) ?_
  refine va_get (ci := 12) (v := .ref (h 20)) (C := RX12) (T := TX12) (N := 58) hx hb ht iX12 hown hK hP 0 rfl rfl 35 (by decide) (ht _ k_292) (fun _ h9 => h9) rfl dX12_image_106 ?_
  refine lv_iload_n hx hb dX12_image_109 rfl (lv_at hl 0 rfl) ?_
  refine va_zald hx hb hK hP 9 2 rfl rfl (in_lit (by decide +kernel)) dX12_image_110 ?_
  refine ow_top 0 rfl ?_
  refine ow_zast hx hb hK hP hD hS 15 rfl (in_lit (by decide +kernel)) dX12_image_111 ?_
  clear hP hD hS
  try clear H locs
  intro f_9 H locs hP hD hS
  replace hP : va_P G vwCl [(mo, .inr (12, [.ref (h 0), .ref (h 1), .int 0, .int 0, .int 0, .int (-1), .int 0, .int 0, .int 0, .int 0, .long 0, .ref (h 2), .ref (h 3), .ref (h 4), .ref (h 5), .ref (h 6), .ref (h 7), .ref (h 8), .ref (h 9), .ref (h 10), .ref (h 11), .ref (h 12), .ref (h 13), .ref (h 14), .ref (h 15), .ref (h 16), .ref (h 17), .ref (h 18), .ref (h 19), .int 0, .int 0, .int 0, .int 0, .int 0, .int 0, .ref (h 20), .ref (h 21), .int 0, .ref (h 22), .ref (h 23), .ref (h 24), .ref (h 25), .ref (h 26), .int 0, .int 0, .ref (h 27), .ref (h 28), .ref (h 29), .ref (h 30), .ref (h 31), .int 0, .int 0, .ref (h 32), .ref (h 33), .ref (h 34), .ref (h 35), .ref (h 36), .ref (h 37)])), ((h 0), .inl (cy 1, 1720, .inl (fun _ => 0))), ((h 2), .inl (cy 0, 2, .inl (fun _ => 0))), ((h 3), .inl (cy 0, 2, .inl (fun _ => 0))), ((h 4), .inl (cy 0, 2, .inl (fun _ => 0))), ((h 5), .inl (cy 0, 2, .inl (f 0))), ((h 12), .inl (cy 2, 2, .inl (f 1))), ((h 7), .inl (cy 0, 1200, .inl (fun _ => 0))), ((h 8), .inl (cy 0, 1200, .inl (fun _ => 0))), ((h 20), .inl (cy 2, 8, .inl (fun _ => 0))), ((h 21), .inl (cy 0, 8, .inl (fun _ => 0))), ((h 32), .inl (cy 0, 3, .inl f_4)), ((h 33), .inl (cy 0, 120, .inl (fun _ => 0))), ((h 34), .inl (cy 0, 120, .inl (fun _ => 0))), ((h 35), .inl (cy 0, 24, .inl (fun _ => 0))), ((h 36), .inl (cy 2, 24, .inl f_9)), ((h 37), .inl (cy 2, 3, .inl f_5))] H := hP
  replace hD : va_D A [(mo, .inr (12, [.ref (h 0), .ref (h 1), .int 0, .int 0, .int 0, .int (-1), .int 0, .int 0, .int 0, .int 0, .long 0, .ref (h 2), .ref (h 3), .ref (h 4), .ref (h 5), .ref (h 6), .ref (h 7), .ref (h 8), .ref (h 9), .ref (h 10), .ref (h 11), .ref (h 12), .ref (h 13), .ref (h 14), .ref (h 15), .ref (h 16), .ref (h 17), .ref (h 18), .ref (h 19), .int 0, .int 0, .int 0, .int 0, .int 0, .int 0, .ref (h 20), .ref (h 21), .int 0, .ref (h 22), .ref (h 23), .ref (h 24), .ref (h 25), .ref (h 26), .int 0, .int 0, .ref (h 27), .ref (h 28), .ref (h 29), .ref (h 30), .ref (h 31), .int 0, .int 0, .ref (h 32), .ref (h 33), .ref (h 34), .ref (h 35), .ref (h 36), .ref (h 37)])), ((h 0), .inl (cy 1, 1720, .inl (fun _ => 0))), ((h 2), .inl (cy 0, 2, .inl (fun _ => 0))), ((h 3), .inl (cy 0, 2, .inl (fun _ => 0))), ((h 4), .inl (cy 0, 2, .inl (fun _ => 0))), ((h 5), .inl (cy 0, 2, .inl (f 0))), ((h 12), .inl (cy 2, 2, .inl (f 1))), ((h 7), .inl (cy 0, 1200, .inl (fun _ => 0))), ((h 8), .inl (cy 0, 1200, .inl (fun _ => 0))), ((h 20), .inl (cy 2, 8, .inl (fun _ => 0))), ((h 21), .inl (cy 0, 8, .inl (fun _ => 0))), ((h 32), .inl (cy 0, 3, .inl f_4)), ((h 33), .inl (cy 0, 120, .inl (fun _ => 0))), ((h 34), .inl (cy 0, 120, .inl (fun _ => 0))), ((h 35), .inl (cy 0, 24, .inl (fun _ => 0))), ((h 36), .inl (cy 2, 24, .inl f_9)), ((h 37), .inl (cy 2, 3, .inl f_5))] := hD
  refine lv_aload_n hx hb dX12_image_112 rfl (lv_at hl 1 rfl) ?_
  refine va_get (ci := 12) (v := .ref (h 35)) (C := RX12) (T := TX12) (N := 58) hx hb ht iX12 hown hK hP 0 rfl rfl 55 (by decide) (ht _ k_307) (fun _ h9 => h9) rfl dX12_image_113 ?_
  refine lv_bipush (v := 8) hx hb dX12_image_116 (by decide) ?_
  refine lv_iload_n hx hb dX12_image_118 rfl (lv_at hl 2 rfl) ?_
  refine lv_imul hx hb dX12_image_119 ?_
  refine ow_top 0 (by decide +kernel) ?_
  refine lv_iload_n hx hb dX12_image_120 rfl (lv_at hl 0 rfl) ?_
  refine lv_iadd hx hb dX12_image_121 ?_
  refine ow_top 3 (by decide +kernel) ?_
  refine lv_aload_n hx hb dX12_image_122 rfl (lv_at hl 1 rfl) ?_
  refine va_get (ci := 12) (v := .ref (h 21)) (C := RX12) (T := TX12) (N := 58) hx hb ht iX12 hown hK hP 0 rfl rfl 36 (by decide) (ht _ k_293) (fun _ h9 => h9) rfl dX12_image_123 ?_
  refine lv_iload_n hx hb dX12_image_126 rfl (lv_at hl 0 rfl) ?_
  refine va_iald hx hb hK hP 10 0 rfl rfl (in_lit (by decide +kernel)) dX12_image_127 ?_
  refine ow_top 0 rfl ?_
  refine ow_iastS hx hb hK hP hD hS 14 rfl (in_lit (by decide +kernel)) dX12_image_128 ?_
  clear hP hD hS
  try clear H locs
  intro H locs hP hD hS
  replace hP : va_P G vwCl [(mo, .inr (12, [.ref (h 0), .ref (h 1), .int 0, .int 0, .int 0, .int (-1), .int 0, .int 0, .int 0, .int 0, .long 0, .ref (h 2), .ref (h 3), .ref (h 4), .ref (h 5), .ref (h 6), .ref (h 7), .ref (h 8), .ref (h 9), .ref (h 10), .ref (h 11), .ref (h 12), .ref (h 13), .ref (h 14), .ref (h 15), .ref (h 16), .ref (h 17), .ref (h 18), .ref (h 19), .int 0, .int 0, .int 0, .int 0, .int 0, .int 0, .ref (h 20), .ref (h 21), .int 0, .ref (h 22), .ref (h 23), .ref (h 24), .ref (h 25), .ref (h 26), .int 0, .int 0, .ref (h 27), .ref (h 28), .ref (h 29), .ref (h 30), .ref (h 31), .int 0, .int 0, .ref (h 32), .ref (h 33), .ref (h 34), .ref (h 35), .ref (h 36), .ref (h 37)])), ((h 0), .inl (cy 1, 1720, .inl (fun _ => 0))), ((h 2), .inl (cy 0, 2, .inl (fun _ => 0))), ((h 3), .inl (cy 0, 2, .inl (fun _ => 0))), ((h 4), .inl (cy 0, 2, .inl (fun _ => 0))), ((h 5), .inl (cy 0, 2, .inl (f 0))), ((h 12), .inl (cy 2, 2, .inl (f 1))), ((h 7), .inl (cy 0, 1200, .inl (fun _ => 0))), ((h 8), .inl (cy 0, 1200, .inl (fun _ => 0))), ((h 20), .inl (cy 2, 8, .inl (fun _ => 0))), ((h 21), .inl (cy 0, 8, .inl (fun _ => 0))), ((h 32), .inl (cy 0, 3, .inl f_4)), ((h 33), .inl (cy 0, 120, .inl (fun _ => 0))), ((h 34), .inl (cy 0, 120, .inl (fun _ => 0))), ((h 35), .inl (cy 0, 24, .inl (fun _ => 0))), ((h 36), .inl (cy 2, 24, .inl f_9)), ((h 37), .inl (cy 2, 3, .inl f_5))] H := hP
  replace hD : va_D A [(mo, .inr (12, [.ref (h 0), .ref (h 1), .int 0, .int 0, .int 0, .int (-1), .int 0, .int 0, .int 0, .int 0, .long 0, .ref (h 2), .ref (h 3), .ref (h 4), .ref (h 5), .ref (h 6), .ref (h 7), .ref (h 8), .ref (h 9), .ref (h 10), .ref (h 11), .ref (h 12), .ref (h 13), .ref (h 14), .ref (h 15), .ref (h 16), .ref (h 17), .ref (h 18), .ref (h 19), .int 0, .int 0, .int 0, .int 0, .int 0, .int 0, .ref (h 20), .ref (h 21), .int 0, .ref (h 22), .ref (h 23), .ref (h 24), .ref (h 25), .ref (h 26), .int 0, .int 0, .ref (h 27), .ref (h 28), .ref (h 29), .ref (h 30), .ref (h 31), .int 0, .int 0, .ref (h 32), .ref (h 33), .ref (h 34), .ref (h 35), .ref (h 36), .ref (h 37)])), ((h 0), .inl (cy 1, 1720, .inl (fun _ => 0))), ((h 2), .inl (cy 0, 2, .inl (fun _ => 0))), ((h 3), .inl (cy 0, 2, .inl (fun _ => 0))), ((h 4), .inl (cy 0, 2, .inl (fun _ => 0))), ((h 5), .inl (cy 0, 2, .inl (f 0))), ((h 12), .inl (cy 2, 2, .inl (f 1))), ((h 7), .inl (cy 0, 1200, .inl (fun _ => 0))), ((h 8), .inl (cy 0, 1200, .inl (fun _ => 0))), ((h 20), .inl (cy 2, 8, .inl (fun _ => 0))), ((h 21), .inl (cy 0, 8, .inl (fun _ => 0))), ((h 32), .inl (cy 0, 3, .inl f_4)), ((h 33), .inl (cy 0, 120, .inl (fun _ => 0))), ((h 34), .inl (cy 0, 120, .inl (fun _ => 0))), ((h 35), .inl (cy 0, 24, .inl (fun _ => 0))), ((h 36), .inl (cy 2, 24, .inl f_9)), ((h 37), .inl (cy 2, 3, .inl f_5))] := hD
  refine lv_iinc (v := 4) (lv' := [(2, .int 4), (0, .ref mo), (1, .int 0)]) hx hb dX12_image_129 hl (k := 0) rfl (by decide) (by decide) rfl ?_
  clear hl
  try clear ls
  intro ls hl
  refine lv_goto (tgt := 89) hx hb dX12_image_132 (by decide) ?_
  refine lv_iload_n hx hb dX12_image_89 rfl (lv_at hl 0 rfl) ?_
  refine lv_bipush (v := 8) hx hb dX12_image_90 (by decide) ?_
  refine lv_icmp_ge (tgt := 135) hx hb dX12_image_92 (by decide) (fun c9 => absurd c9 (by decide)) (fun _ => ?_)
  refine lv_aload_n hx hb dX12_image_95 rfl (lv_at hl 1 rfl) ?_
  refine va_get (ci := 12) (v := .ref (h 36)) (C := RX12) (T := TX12) (N := 58) hx hb ht iX12 hown hK hP 0 rfl rfl 56 (by decide) (ht _ k_308) (fun _ h9 => h9) rfl dX12_image_96 ?_
  refine lv_bipush (v := 8) hx hb dX12_image_99 (by decide) ?_
  refine lv_iload_n hx hb dX12_image_101 rfl (lv_at hl 2 rfl) ?_
  refine lv_imul hx hb dX12_image_102 ?_
  refine ow_top 0 (by decide +kernel) ?_
  refine lv_iload_n hx hb dX12_image_103 rfl (lv_at hl 0 rfl) ?_
  refine lv_iadd hx hb dX12_image_104 ?_
  refine ow_top 4 (by decide +kernel) ?_
  refine lv_aload_n hx hb dX12_image_105 rfl (lv_at hl 1 rfl) ?_
  refine va_get (ci := 12) (v := .ref (h 20)) (C := RX12) (T := TX12) (N := 58) hx hb ht iX12 hown hK hP 0 rfl rfl 35 (by decide) (ht _ k_292) (fun _ h9 => h9) rfl dX12_image_106 ?_
  refine lv_iload_n hx hb dX12_image_109 rfl (lv_at hl 0 rfl) ?_
  refine va_zald hx hb hK hP 9 2 rfl rfl (in_lit (by decide +kernel)) dX12_image_110 ?_
  refine ow_top 0 rfl ?_
  refine ow_zast hx hb hK hP hD hS 15 rfl (in_lit (by decide +kernel)) dX12_image_111 ?_
  clear hP hD hS
  try clear H locs
  intro f_10 H locs hP hD hS
  replace hP : va_P G vwCl [(mo, .inr (12, [.ref (h 0), .ref (h 1), .int 0, .int 0, .int 0, .int (-1), .int 0, .int 0, .int 0, .int 0, .long 0, .ref (h 2), .ref (h 3), .ref (h 4), .ref (h 5), .ref (h 6), .ref (h 7), .ref (h 8), .ref (h 9), .ref (h 10), .ref (h 11), .ref (h 12), .ref (h 13), .ref (h 14), .ref (h 15), .ref (h 16), .ref (h 17), .ref (h 18), .ref (h 19), .int 0, .int 0, .int 0, .int 0, .int 0, .int 0, .ref (h 20), .ref (h 21), .int 0, .ref (h 22), .ref (h 23), .ref (h 24), .ref (h 25), .ref (h 26), .int 0, .int 0, .ref (h 27), .ref (h 28), .ref (h 29), .ref (h 30), .ref (h 31), .int 0, .int 0, .ref (h 32), .ref (h 33), .ref (h 34), .ref (h 35), .ref (h 36), .ref (h 37)])), ((h 0), .inl (cy 1, 1720, .inl (fun _ => 0))), ((h 2), .inl (cy 0, 2, .inl (fun _ => 0))), ((h 3), .inl (cy 0, 2, .inl (fun _ => 0))), ((h 4), .inl (cy 0, 2, .inl (fun _ => 0))), ((h 5), .inl (cy 0, 2, .inl (f 0))), ((h 12), .inl (cy 2, 2, .inl (f 1))), ((h 7), .inl (cy 0, 1200, .inl (fun _ => 0))), ((h 8), .inl (cy 0, 1200, .inl (fun _ => 0))), ((h 20), .inl (cy 2, 8, .inl (fun _ => 0))), ((h 21), .inl (cy 0, 8, .inl (fun _ => 0))), ((h 32), .inl (cy 0, 3, .inl f_4)), ((h 33), .inl (cy 0, 120, .inl (fun _ => 0))), ((h 34), .inl (cy 0, 120, .inl (fun _ => 0))), ((h 35), .inl (cy 0, 24, .inl (fun _ => 0))), ((h 36), .inl (cy 2, 24, .inl f_10)), ((h 37), .inl (cy 2, 3, .inl f_5))] H := hP
  replace hD : va_D A [(mo, .inr (12, [.ref (h 0), .ref (h 1), .int 0, .int 0, .int 0, .int (-1), .int 0, .int 0, .int 0, .int 0, .long 0, .ref (h 2), .ref (h 3), .ref (h 4), .ref (h 5), .ref (h 6), .ref (h 7), .ref (h 8), .ref (h 9), .ref (h 10), .ref (h 11), .ref (h 12), .ref (h 13), .ref (h 14), .ref (h 15), .ref (h 16), .ref (h 17), .ref (h 18), .ref (h 19), .int 0, .int 0, .int 0, .int 0, .int 0, .int 0, .ref (h 20), .ref (h 21), .int 0, .ref (h 22), .ref (h 23), .ref (h 24), .ref (h 25), .ref (h 26), .int 0, .int 0, .ref (h 27), .ref (h 28), .ref (h 29), .ref (h 30), .ref (h 31), .int 0, .int 0, .ref (h 32), .ref (h 33), .ref (h 34), .ref (h 35), .ref (h 36), .ref (h 37)])), ((h 0), .inl (cy 1, 1720, .inl (fun _ => 0))), ((h 2), .inl (cy 0, 2, .inl (fun _ => 0))), ((h 3), .inl (cy 0, 2, .inl (fun _ => 0))), ((h 4), .inl (cy 0, 2, .inl (fun _ => 0))), ((h 5), .inl (cy 0, 2, .inl (f 0))), ((h 12), .inl (cy 2, 2, .inl (f 1))), ((h 7), .inl (cy 0, 1200, .inl (fun _ => 0))), ((h 8), .inl (cy 0, 1200, .inl (fun _ => 0))), ((h 20), .inl (cy 2, 8, .inl (fun _ => 0))), ((h 21), .inl (cy 0, 8, .inl (fun _ => 0))), ((h 32), .inl (cy 0, 3, .inl f_4)), ((h 33), .inl (cy 0, 120, .inl (fun _ => 0))), ((h 34), .inl (cy 0, 120, .inl (fun _ => 0))), ((h 35), .inl (cy 0, 24, .inl (fun _ => 0))), ((h 36), .inl (cy 2, 24, .inl f_10)), ((h 37), .inl (cy 2, 3, .inl f_5))] := hD
  refine lv_aload_n hx hb dX12_image_112 rfl (lv_at hl 1 rfl) ?_
  refine va_get (ci := 12) (v := .ref (h 35)) (C := RX12) (T := TX12) (N := 58) hx hb ht iX12 hown hK hP 0 rfl rfl 55 (by decide) (ht _ k_307) (fun _ h9 => h9) rfl dX12_image_113 ?_
  refine lv_bipush (v := 8) hx hb dX12_image_116 (by decide) ?_
  refine lv_iload_n hx hb dX12_image_118 rfl (lv_at hl 2 rfl) ?_
  refine lv_imul hx hb dX12_image_119 ?_
  refine ow_top 0 (by decide +kernel) ?_
  refine lv_iload_n hx hb dX12_image_120 rfl (lv_at hl 0 rfl) ?_
  refine lv_iadd hx hb dX12_image_121 ?_
  refine ow_top 4 (by decide +kernel) ?_
  refine lv_aload_n hx hb dX12_image_122 rfl (lv_at hl 1 rfl) ?_
  refine va_get (ci := 12) (v := .ref (h 21)) (C := RX12) (T := TX12) (N := 58) hx hb ht iX12 hown hK hP 0 rfl rfl 36 (by decide) (ht _ k_293) (fun _ h9 => h9) rfl dX12_image_123 ?_
  refine lv_iload_n hx hb dX12_image_126 rfl (lv_at hl 0 rfl) ?_
  refine va_iald hx hb hK hP 10 0 rfl rfl (in_lit (by decide +kernel)) dX12_image_127 ?_
  refine ow_top 0 rfl ?_
  refine ow_iastS hx hb hK hP hD hS 14 rfl (in_lit (by decide +kernel)) dX12_image_128 ?_
  clear hP hD hS
  try clear H locs
  intro H locs hP hD hS
  replace hP : va_P G vwCl [(mo, .inr (12, [.ref (h 0), .ref (h 1), .int 0, .int 0, .int 0, .int (-1), .int 0, .int 0, .int 0, .int 0, .long 0, .ref (h 2), .ref (h 3), .ref (h 4), .ref (h 5), .ref (h 6), .ref (h 7), .ref (h 8), .ref (h 9), .ref (h 10), .ref (h 11), .ref (h 12), .ref (h 13), .ref (h 14), .ref (h 15), .ref (h 16), .ref (h 17), .ref (h 18), .ref (h 19), .int 0, .int 0, .int 0, .int 0, .int 0, .int 0, .ref (h 20), .ref (h 21), .int 0, .ref (h 22), .ref (h 23), .ref (h 24), .ref (h 25), .ref (h 26), .int 0, .int 0, .ref (h 27), .ref (h 28), .ref (h 29), .ref (h 30), .ref (h 31), .int 0, .int 0, .ref (h 32), .ref (h 33), .ref (h 34), .ref (h 35), .ref (h 36), .ref (h 37)])), ((h 0), .inl (cy 1, 1720, .inl (fun _ => 0))), ((h 2), .inl (cy 0, 2, .inl (fun _ => 0))), ((h 3), .inl (cy 0, 2, .inl (fun _ => 0))), ((h 4), .inl (cy 0, 2, .inl (fun _ => 0))), ((h 5), .inl (cy 0, 2, .inl (f 0))), ((h 12), .inl (cy 2, 2, .inl (f 1))), ((h 7), .inl (cy 0, 1200, .inl (fun _ => 0))), ((h 8), .inl (cy 0, 1200, .inl (fun _ => 0))), ((h 20), .inl (cy 2, 8, .inl (fun _ => 0))), ((h 21), .inl (cy 0, 8, .inl (fun _ => 0))), ((h 32), .inl (cy 0, 3, .inl f_4)), ((h 33), .inl (cy 0, 120, .inl (fun _ => 0))), ((h 34), .inl (cy 0, 120, .inl (fun _ => 0))), ((h 35), .inl (cy 0, 24, .inl (fun _ => 0))), ((h 36), .inl (cy 2, 24, .inl f_10)), ((h 37), .inl (cy 2, 3, .inl f_5))] H := hP
  replace hD : va_D A [(mo, .inr (12, [.ref (h 0), .ref (h 1), .int 0, .int 0, .int 0, .int (-1), .int 0, .int 0, .int 0, .int 0, .long 0, .ref (h 2), .ref (h 3), .ref (h 4), .ref (h 5), .ref (h 6), .ref (h 7), .ref (h 8), .ref (h 9), .ref (h 10), .ref (h 11), .ref (h 12), .ref (h 13), .ref (h 14), .ref (h 15), .ref (h 16), .ref (h 17), .ref (h 18), .ref (h 19), .int 0, .int 0, .int 0, .int 0, .int 0, .int 0, .ref (h 20), .ref (h 21), .int 0, .ref (h 22), .ref (h 23), .ref (h 24), .ref (h 25), .ref (h 26), .int 0, .int 0, .ref (h 27), .ref (h 28), .ref (h 29), .ref (h 30), .ref (h 31), .int 0, .int 0, .ref (h 32), .ref (h 33), .ref (h 34), .ref (h 35), .ref (h 36), .ref (h 37)])), ((h 0), .inl (cy 1, 1720, .inl (fun _ => 0))), ((h 2), .inl (cy 0, 2, .inl (fun _ => 0))), ((h 3), .inl (cy 0, 2, .inl (fun _ => 0))), ((h 4), .inl (cy 0, 2, .inl (fun _ => 0))), ((h 5), .inl (cy 0, 2, .inl (f 0))), ((h 12), .inl (cy 2, 2, .inl (f 1))), ((h 7), .inl (cy 0, 1200, .inl (fun _ => 0))), ((h 8), .inl (cy 0, 1200, .inl (fun _ => 0))), ((h 20), .inl (cy 2, 8, .inl (fun _ => 0))), ((h 21), .inl (cy 0, 8, .inl (fun _ => 0))), ((h 32), .inl (cy 0, 3, .inl f_4)), ((h 33), .inl (cy 0, 120, .inl (fun _ => 0))), ((h 34), .inl (cy 0, 120, .inl (fun _ => 0))), ((h 35), .inl (cy 0, 24, .inl (fun _ => 0))), ((h 36), .inl (cy 2, 24, .inl f_10)), ((h 37), .inl (cy 2, 3, .inl f_5))] := hD
  refine lv_iinc (v := 5) (lv' := [(2, .int 5), (0, .ref mo), (1, .int 0)]) hx hb dX12_image_129 hl (k := 0) rfl (by decide) (by decide) rfl ?_
  clear hl
  try clear ls
  intro ls hl
  refine lv_goto (tgt := 89) hx hb dX12_image_132 (by decide) ?_
  refine lv_iload_n hx hb dX12_image_89 rfl (lv_at hl 0 rfl) ?_
  refine lv_bipush (v := 8) hx hb dX12_image_90 (by decide) ?_
  refine lv_icmp_ge (tgt := 135) hx hb dX12_image_92 (by decide) (fun c9 => absurd c9 (by decide)) (fun _ => ?_)
  refine lv_aload_n hx hb dX12_image_95 rfl (lv_at hl 1 rfl) ?_
  refine va_get (ci := 12) (v := .ref (h 36)) (C := RX12) (T := TX12) (N := 58) hx hb ht iX12 hown hK hP 0 rfl rfl 56 (by decide) (ht _ k_308) (fun _ h9 => h9) rfl dX12_image_96 ?_
  refine lv_bipush (v := 8) hx hb dX12_image_99 (by decide) ?_
  refine lv_iload_n hx hb dX12_image_101 rfl (lv_at hl 2 rfl) ?_
  refine lv_imul hx hb dX12_image_102 ?_
  refine ow_top 0 (by decide +kernel) ?_
  refine lv_iload_n hx hb dX12_image_103 rfl (lv_at hl 0 rfl) ?_
  refine lv_iadd hx hb dX12_image_104 ?_
  refine ow_top 5 (by decide +kernel) ?_
  refine lv_aload_n hx hb dX12_image_105 rfl (lv_at hl 1 rfl) ?_
  refine va_get (ci := 12) (v := .ref (h 20)) (C := RX12) (T := TX12) (N := 58) hx hb ht iX12 hown hK hP 0 rfl rfl 35 (by decide) (ht _ k_292) (fun _ h9 => h9) rfl dX12_image_106 ?_
  refine lv_iload_n hx hb dX12_image_109 rfl (lv_at hl 0 rfl) ?_
  refine va_zald hx hb hK hP 9 2 rfl rfl (in_lit (by decide +kernel)) dX12_image_110 ?_
  refine ow_top 0 rfl ?_
  refine ow_zast hx hb hK hP hD hS 15 rfl (in_lit (by decide +kernel)) dX12_image_111 ?_
  clear hP hD hS
  try clear H locs
  intro f_11 H locs hP hD hS
  replace hP : va_P G vwCl [(mo, .inr (12, [.ref (h 0), .ref (h 1), .int 0, .int 0, .int 0, .int (-1), .int 0, .int 0, .int 0, .int 0, .long 0, .ref (h 2), .ref (h 3), .ref (h 4), .ref (h 5), .ref (h 6), .ref (h 7), .ref (h 8), .ref (h 9), .ref (h 10), .ref (h 11), .ref (h 12), .ref (h 13), .ref (h 14), .ref (h 15), .ref (h 16), .ref (h 17), .ref (h 18), .ref (h 19), .int 0, .int 0, .int 0, .int 0, .int 0, .int 0, .ref (h 20), .ref (h 21), .int 0, .ref (h 22), .ref (h 23), .ref (h 24), .ref (h 25), .ref (h 26), .int 0, .int 0, .ref (h 27), .ref (h 28), .ref (h 29), .ref (h 30), .ref (h 31), .int 0, .int 0, .ref (h 32), .ref (h 33), .ref (h 34), .ref (h 35), .ref (h 36), .ref (h 37)])), ((h 0), .inl (cy 1, 1720, .inl (fun _ => 0))), ((h 2), .inl (cy 0, 2, .inl (fun _ => 0))), ((h 3), .inl (cy 0, 2, .inl (fun _ => 0))), ((h 4), .inl (cy 0, 2, .inl (fun _ => 0))), ((h 5), .inl (cy 0, 2, .inl (f 0))), ((h 12), .inl (cy 2, 2, .inl (f 1))), ((h 7), .inl (cy 0, 1200, .inl (fun _ => 0))), ((h 8), .inl (cy 0, 1200, .inl (fun _ => 0))), ((h 20), .inl (cy 2, 8, .inl (fun _ => 0))), ((h 21), .inl (cy 0, 8, .inl (fun _ => 0))), ((h 32), .inl (cy 0, 3, .inl f_4)), ((h 33), .inl (cy 0, 120, .inl (fun _ => 0))), ((h 34), .inl (cy 0, 120, .inl (fun _ => 0))), ((h 35), .inl (cy 0, 24, .inl (fun _ => 0))), ((h 36), .inl (cy 2, 24, .inl f_11)), ((h 37), .inl (cy 2, 3, .inl f_5))] H := hP
  replace hD : va_D A [(mo, .inr (12, [.ref (h 0), .ref (h 1), .int 0, .int 0, .int 0, .int (-1), .int 0, .int 0, .int 0, .int 0, .long 0, .ref (h 2), .ref (h 3), .ref (h 4), .ref (h 5), .ref (h 6), .ref (h 7), .ref (h 8), .ref (h 9), .ref (h 10), .ref (h 11), .ref (h 12), .ref (h 13), .ref (h 14), .ref (h 15), .ref (h 16), .ref (h 17), .ref (h 18), .ref (h 19), .int 0, .int 0, .int 0, .int 0, .int 0, .int 0, .ref (h 20), .ref (h 21), .int 0, .ref (h 22), .ref (h 23), .ref (h 24), .ref (h 25), .ref (h 26), .int 0, .int 0, .ref (h 27), .ref (h 28), .ref (h 29), .ref (h 30), .ref (h 31), .int 0, .int 0, .ref (h 32), .ref (h 33), .ref (h 34), .ref (h 35), .ref (h 36), .ref (h 37)])), ((h 0), .inl (cy 1, 1720, .inl (fun _ => 0))), ((h 2), .inl (cy 0, 2, .inl (fun _ => 0))), ((h 3), .inl (cy 0, 2, .inl (fun _ => 0))), ((h 4), .inl (cy 0, 2, .inl (fun _ => 0))), ((h 5), .inl (cy 0, 2, .inl (f 0))), ((h 12), .inl (cy 2, 2, .inl (f 1))), ((h 7), .inl (cy 0, 1200, .inl (fun _ => 0))), ((h 8), .inl (cy 0, 1200, .inl (fun _ => 0))), ((h 20), .inl (cy 2, 8, .inl (fun _ => 0))), ((h 21), .inl (cy 0, 8, .inl (fun _ => 0))), ((h 32), .inl (cy 0, 3, .inl f_4)), ((h 33), .inl (cy 0, 120, .inl (fun _ => 0))), ((h 34), .inl (cy 0, 120, .inl (fun _ => 0))), ((h 35), .inl (cy 0, 24, .inl (fun _ => 0))), ((h 36), .inl (cy 2, 24, .inl f_11)), ((h 37), .inl (cy 2, 3, .inl f_5))] := hD
  refine lv_aload_n hx hb dX12_image_112 rfl (lv_at hl 1 rfl) ?_
  refine va_get (ci := 12) (v := .ref (h 35)) (C := RX12) (T := TX12) (N := 58) hx hb ht iX12 hown hK hP 0 rfl rfl 55 (by decide) (ht _ k_307) (fun _ h9 => h9) rfl dX12_image_113 ?_
  refine lv_bipush (v := 8) hx hb dX12_image_116 (by decide) ?_
  refine lv_iload_n hx hb dX12_image_118 rfl (lv_at hl 2 rfl) ?_
  refine lv_imul hx hb dX12_image_119 ?_
  refine ow_top 0 (by decide +kernel) ?_
  refine lv_iload_n hx hb dX12_image_120 rfl (lv_at hl 0 rfl) ?_
  refine lv_iadd hx hb dX12_image_121 ?_
  refine ow_top 5 (by decide +kernel) ?_
  refine lv_aload_n hx hb dX12_image_122 rfl (lv_at hl 1 rfl) ?_
  refine va_get (ci := 12) (v := .ref (h 21)) (C := RX12) (T := TX12) (N := 58) hx hb ht iX12 hown hK hP 0 rfl rfl 36 (by decide) (ht _ k_293) (fun _ h9 => h9) rfl dX12_image_123 ?_
  refine lv_iload_n hx hb dX12_image_126 rfl (lv_at hl 0 rfl) ?_
  refine va_iald hx hb hK hP 10 0 rfl rfl (in_lit (by decide +kernel)) dX12_image_127 ?_
  refine ow_top 0 rfl ?_
  refine ow_iastS hx hb hK hP hD hS 14 rfl (in_lit (by decide +kernel)) dX12_image_128 ?_
  clear hP hD hS
  try clear H locs
  intro H locs hP hD hS
  replace hP : va_P G vwCl [(mo, .inr (12, [.ref (h 0), .ref (h 1), .int 0, .int 0, .int 0, .int (-1), .int 0, .int 0, .int 0, .int 0, .long 0, .ref (h 2), .ref (h 3), .ref (h 4), .ref (h 5), .ref (h 6), .ref (h 7), .ref (h 8), .ref (h 9), .ref (h 10), .ref (h 11), .ref (h 12), .ref (h 13), .ref (h 14), .ref (h 15), .ref (h 16), .ref (h 17), .ref (h 18), .ref (h 19), .int 0, .int 0, .int 0, .int 0, .int 0, .int 0, .ref (h 20), .ref (h 21), .int 0, .ref (h 22), .ref (h 23), .ref (h 24), .ref (h 25), .ref (h 26), .int 0, .int 0, .ref (h 27), .ref (h 28), .ref (h 29), .ref (h 30), .ref (h 31), .int 0, .int 0, .ref (h 32), .ref (h 33), .ref (h 34), .ref (h 35), .ref (h 36), .ref (h 37)])), ((h 0), .inl (cy 1, 1720, .inl (fun _ => 0))), ((h 2), .inl (cy 0, 2, .inl (fun _ => 0))), ((h 3), .inl (cy 0, 2, .inl (fun _ => 0))), ((h 4), .inl (cy 0, 2, .inl (fun _ => 0))), ((h 5), .inl (cy 0, 2, .inl (f 0))), ((h 12), .inl (cy 2, 2, .inl (f 1))), ((h 7), .inl (cy 0, 1200, .inl (fun _ => 0))), ((h 8), .inl (cy 0, 1200, .inl (fun _ => 0))), ((h 20), .inl (cy 2, 8, .inl (fun _ => 0))), ((h 21), .inl (cy 0, 8, .inl (fun _ => 0))), ((h 32), .inl (cy 0, 3, .inl f_4)), ((h 33), .inl (cy 0, 120, .inl (fun _ => 0))), ((h 34), .inl (cy 0, 120, .inl (fun _ => 0))), ((h 35), .inl (cy 0, 24, .inl (fun _ => 0))), ((h 36), .inl (cy 2, 24, .inl f_11)), ((h 37), .inl (cy 2, 3, .inl f_5))] H := hP
  replace hD : va_D A [(mo, .inr (12, [.ref (h 0), .ref (h 1), .int 0, .int 0, .int 0, .int (-1), .int 0, .int 0, .int 0, .int 0, .long 0, .ref (h 2), .ref (h 3), .ref (h 4), .ref (h 5), .ref (h 6), .ref (h 7), .ref (h 8), .ref (h 9), .ref (h 10), .ref (h 11), .ref (h 12), .ref (h 13), .ref (h 14), .ref (h 15), .ref (h 16), .ref (h 17), .ref (h 18), .ref (h 19), .int 0, .int 0, .int 0, .int 0, .int 0, .int 0, .ref (h 20), .ref (h 21), .int 0, .ref (h 22), .ref (h 23), .ref (h 24), .ref (h 25), .ref (h 26), .int 0, .int 0, .ref (h 27), .ref (h 28), .ref (h 29), .ref (h 30), .ref (h 31), .int 0, .int 0, .ref (h 32), .ref (h 33), .ref (h 34), .ref (h 35), .ref (h 36), .ref (h 37)])), ((h 0), .inl (cy 1, 1720, .inl (fun _ => 0))), ((h 2), .inl (cy 0, 2, .inl (fun _ => 0))), ((h 3), .inl (cy 0, 2, .inl (fun _ => 0))), ((h 4), .inl (cy 0, 2, .inl (fun _ => 0))), ((h 5), .inl (cy 0, 2, .inl (f 0))), ((h 12), .inl (cy 2, 2, .inl (f 1))), ((h 7), .inl (cy 0, 1200, .inl (fun _ => 0))), ((h 8), .inl (cy 0, 1200, .inl (fun _ => 0))), ((h 20), .inl (cy 2, 8, .inl (fun _ => 0))), ((h 21), .inl (cy 0, 8, .inl (fun _ => 0))), ((h 32), .inl (cy 0, 3, .inl f_4)), ((h 33), .inl (cy 0, 120, .inl (fun _ => 0))), ((h 34), .inl (cy 0, 120, .inl (fun _ => 0))), ((h 35), .inl (cy 0, 24, .inl (fun _ => 0))), ((h 36), .inl (cy 2, 24, .inl f_11)), ((h 37), .inl (cy 2, 3, .inl f_5))] := hD
  refine lv_iinc (v := 6) (lv' := [(2, .int 6), (0, .ref mo), (1, .int 0)]) hx hb dX12_image_129 hl (k := 0) rfl (by decide) (by decide) rfl ?_
  clear hl
  try clear ls
  intro ls hl
  refine lv_goto (tgt := 89) hx hb dX12_image_132 (by decide) ?_
  refine lv_iload_n hx hb dX12_image_89 rfl (lv_at hl 0 rfl) ?_
  refine lv_bipush (v := 8) hx hb dX12_image_90 (by decide) ?_
  refine lv_icmp_ge (tgt := 135) hx hb dX12_image_92 (by decide) (fun c9 => absurd c9 (by decide)) (fun _ => ?_)
  refine lv_aload_n hx hb dX12_image_95 rfl (lv_at hl 1 rfl) ?_
  refine va_get (ci := 12) (v := .ref (h 36)) (C := RX12) (T := TX12) (N := 58) hx hb ht iX12 hown hK hP 0 rfl rfl 56 (by decide) (ht _ k_308) (fun _ h9 => h9) rfl dX12_image_96 ?_
  refine lv_bipush (v := 8) hx hb dX12_image_99 (by decide) ?_
  refine lv_iload_n hx hb dX12_image_101 rfl (lv_at hl 2 rfl) ?_
  refine lv_imul hx hb dX12_image_102 ?_
  refine ow_top 0 (by decide +kernel) ?_
  refine lv_iload_n hx hb dX12_image_103 rfl (lv_at hl 0 rfl) ?_
  refine lv_iadd hx hb dX12_image_104 ?_
  refine ow_top 6 (by decide +kernel) ?_
  refine lv_aload_n hx hb dX12_image_105 rfl (lv_at hl 1 rfl) ?_
  refine va_get (ci := 12) (v := .ref (h 20)) (C := RX12) (T := TX12) (N := 58) hx hb ht iX12 hown hK hP 0 rfl rfl 35 (by decide) (ht _ k_292) (fun _ h9 => h9) rfl dX12_image_106 ?_
  refine lv_iload_n hx hb dX12_image_109 rfl (lv_at hl 0 rfl) ?_
  refine va_zald hx hb hK hP 9 2 rfl rfl (in_lit (by decide +kernel)) dX12_image_110 ?_
  refine ow_top 0 rfl ?_
  refine ow_zast hx hb hK hP hD hS 15 rfl (in_lit (by decide +kernel)) dX12_image_111 ?_
  clear hP hD hS
  try clear H locs
  intro f_12 H locs hP hD hS
  replace hP : va_P G vwCl [(mo, .inr (12, [.ref (h 0), .ref (h 1), .int 0, .int 0, .int 0, .int (-1), .int 0, .int 0, .int 0, .int 0, .long 0, .ref (h 2), .ref (h 3), .ref (h 4), .ref (h 5), .ref (h 6), .ref (h 7), .ref (h 8), .ref (h 9), .ref (h 10), .ref (h 11), .ref (h 12), .ref (h 13), .ref (h 14), .ref (h 15), .ref (h 16), .ref (h 17), .ref (h 18), .ref (h 19), .int 0, .int 0, .int 0, .int 0, .int 0, .int 0, .ref (h 20), .ref (h 21), .int 0, .ref (h 22), .ref (h 23), .ref (h 24), .ref (h 25), .ref (h 26), .int 0, .int 0, .ref (h 27), .ref (h 28), .ref (h 29), .ref (h 30), .ref (h 31), .int 0, .int 0, .ref (h 32), .ref (h 33), .ref (h 34), .ref (h 35), .ref (h 36), .ref (h 37)])), ((h 0), .inl (cy 1, 1720, .inl (fun _ => 0))), ((h 2), .inl (cy 0, 2, .inl (fun _ => 0))), ((h 3), .inl (cy 0, 2, .inl (fun _ => 0))), ((h 4), .inl (cy 0, 2, .inl (fun _ => 0))), ((h 5), .inl (cy 0, 2, .inl (f 0))), ((h 12), .inl (cy 2, 2, .inl (f 1))), ((h 7), .inl (cy 0, 1200, .inl (fun _ => 0))), ((h 8), .inl (cy 0, 1200, .inl (fun _ => 0))), ((h 20), .inl (cy 2, 8, .inl (fun _ => 0))), ((h 21), .inl (cy 0, 8, .inl (fun _ => 0))), ((h 32), .inl (cy 0, 3, .inl f_4)), ((h 33), .inl (cy 0, 120, .inl (fun _ => 0))), ((h 34), .inl (cy 0, 120, .inl (fun _ => 0))), ((h 35), .inl (cy 0, 24, .inl (fun _ => 0))), ((h 36), .inl (cy 2, 24, .inl f_12)), ((h 37), .inl (cy 2, 3, .inl f_5))] H := hP
  replace hD : va_D A [(mo, .inr (12, [.ref (h 0), .ref (h 1), .int 0, .int 0, .int 0, .int (-1), .int 0, .int 0, .int 0, .int 0, .long 0, .ref (h 2), .ref (h 3), .ref (h 4), .ref (h 5), .ref (h 6), .ref (h 7), .ref (h 8), .ref (h 9), .ref (h 10), .ref (h 11), .ref (h 12), .ref (h 13), .ref (h 14), .ref (h 15), .ref (h 16), .ref (h 17), .ref (h 18), .ref (h 19), .int 0, .int 0, .int 0, .int 0, .int 0, .int 0, .ref (h 20), .ref (h 21), .int 0, .ref (h 22), .ref (h 23), .ref (h 24), .ref (h 25), .ref (h 26), .int 0, .int 0, .ref (h 27), .ref (h 28), .ref (h 29), .ref (h 30), .ref (h 31), .int 0, .int 0, .ref (h 32), .ref (h 33), .ref (h 34), .ref (h 35), .ref (h 36), .ref (h 37)])), ((h 0), .inl (cy 1, 1720, .inl (fun _ => 0))), ((h 2), .inl (cy 0, 2, .inl (fun _ => 0))), ((h 3), .inl (cy 0, 2, .inl (fun _ => 0))), ((h 4), .inl (cy 0, 2, .inl (fun _ => 0))), ((h 5), .inl (cy 0, 2, .inl (f 0))), ((h 12), .inl (cy 2, 2, .inl (f 1))), ((h 7), .inl (cy 0, 1200, .inl (fun _ => 0))), ((h 8), .inl (cy 0, 1200, .inl (fun _ => 0))), ((h 20), .inl (cy 2, 8, .inl (fun _ => 0))), ((h 21), .inl (cy 0, 8, .inl (fun _ => 0))), ((h 32), .inl (cy 0, 3, .inl f_4)), ((h 33), .inl (cy 0, 120, .inl (fun _ => 0))), ((h 34), .inl (cy 0, 120, .inl (fun _ => 0))), ((h 35), .inl (cy 0, 24, .inl (fun _ => 0))), ((h 36), .inl (cy 2, 24, .inl f_12)), ((h 37), .inl (cy 2, 3, .inl f_5))] := hD
  refine lv_aload_n hx hb dX12_image_112 rfl (lv_at hl 1 rfl) ?_
  refine va_get (ci := 12) (v := .ref (h 35)) (C := RX12) (T := TX12) (N := 58) hx hb ht iX12 hown hK hP 0 rfl rfl 55 (by decide) (ht _ k_307) (fun _ h9 => h9) rfl dX12_image_113 ?_
  refine lv_bipush (v := 8) hx hb dX12_image_116 (by decide) ?_
  refine lv_iload_n hx hb dX12_image_118 rfl (lv_at hl 2 rfl) ?_
  refine lv_imul hx hb dX12_image_119 ?_
  refine ow_top 0 (by decide +kernel) ?_
  refine lv_iload_n hx hb dX12_image_120 rfl (lv_at hl 0 rfl) ?_
  refine lv_iadd hx hb dX12_image_121 ?_
  refine ow_top 6 (by decide +kernel) ?_
  refine lv_aload_n hx hb dX12_image_122 rfl (lv_at hl 1 rfl) ?_
  refine va_get (ci := 12) (v := .ref (h 21)) (C := RX12) (T := TX12) (N := 58) hx hb ht iX12 hown hK hP 0 rfl rfl 36 (by decide) (ht _ k_293) (fun _ h9 => h9) rfl dX12_image_123 ?_
  refine lv_iload_n hx hb dX12_image_126 rfl (lv_at hl 0 rfl) ?_
  refine va_iald hx hb hK hP 10 0 rfl rfl (in_lit (by decide +kernel)) dX12_image_127 ?_
  refine ow_top 0 rfl ?_
  refine ow_iastS hx hb hK hP hD hS 14 rfl (in_lit (by decide +kernel)) dX12_image_128 ?_
  clear hP hD hS
  try clear H locs
  intro H locs hP hD hS
  replace hP : va_P G vwCl [(mo, .inr (12, [.ref (h 0), .ref (h 1), .int 0, .int 0, .int 0, .int (-1), .int 0, .int 0, .int 0, .int 0, .long 0, .ref (h 2), .ref (h 3), .ref (h 4), .ref (h 5), .ref (h 6), .ref (h 7), .ref (h 8), .ref (h 9), .ref (h 10), .ref (h 11), .ref (h 12), .ref (h 13), .ref (h 14), .ref (h 15), .ref (h 16), .ref (h 17), .ref (h 18), .ref (h 19), .int 0, .int 0, .int 0, .int 0, .int 0, .int 0, .ref (h 20), .ref (h 21), .int 0, .ref (h 22), .ref (h 23), .ref (h 24), .ref (h 25), .ref (h 26), .int 0, .int 0, .ref (h 27), .ref (h 28), .ref (h 29), .ref (h 30), .ref (h 31), .int 0, .int 0, .ref (h 32), .ref (h 33), .ref (h 34), .ref (h 35), .ref (h 36), .ref (h 37)])), ((h 0), .inl (cy 1, 1720, .inl (fun _ => 0))), ((h 2), .inl (cy 0, 2, .inl (fun _ => 0))), ((h 3), .inl (cy 0, 2, .inl (fun _ => 0))), ((h 4), .inl (cy 0, 2, .inl (fun _ => 0))), ((h 5), .inl (cy 0, 2, .inl (f 0))), ((h 12), .inl (cy 2, 2, .inl (f 1))), ((h 7), .inl (cy 0, 1200, .inl (fun _ => 0))), ((h 8), .inl (cy 0, 1200, .inl (fun _ => 0))), ((h 20), .inl (cy 2, 8, .inl (fun _ => 0))), ((h 21), .inl (cy 0, 8, .inl (fun _ => 0))), ((h 32), .inl (cy 0, 3, .inl f_4)), ((h 33), .inl (cy 0, 120, .inl (fun _ => 0))), ((h 34), .inl (cy 0, 120, .inl (fun _ => 0))), ((h 35), .inl (cy 0, 24, .inl (fun _ => 0))), ((h 36), .inl (cy 2, 24, .inl f_12)), ((h 37), .inl (cy 2, 3, .inl f_5))] H := hP
  replace hD : va_D A [(mo, .inr (12, [.ref (h 0), .ref (h 1), .int 0, .int 0, .int 0, .int (-1), .int 0, .int 0, .int 0, .int 0, .long 0, .ref (h 2), .ref (h 3), .ref (h 4), .ref (h 5), .ref (h 6), .ref (h 7), .ref (h 8), .ref (h 9), .ref (h 10), .ref (h 11), .ref (h 12), .ref (h 13), .ref (h 14), .ref (h 15), .ref (h 16), .ref (h 17), .ref (h 18), .ref (h 19), .int 0, .int 0, .int 0, .int 0, .int 0, .int 0, .ref (h 20), .ref (h 21), .int 0, .ref (h 22), .ref (h 23), .ref (h 24), .ref (h 25), .ref (h 26), .int 0, .int 0, .ref (h 27), .ref (h 28), .ref (h 29), .ref (h 30), .ref (h 31), .int 0, .int 0, .ref (h 32), .ref (h 33), .ref (h 34), .ref (h 35), .ref (h 36), .ref (h 37)])), ((h 0), .inl (cy 1, 1720, .inl (fun _ => 0))), ((h 2), .inl (cy 0, 2, .inl (fun _ => 0))), ((h 3), .inl (cy 0, 2, .inl (fun _ => 0))), ((h 4), .inl (cy 0, 2, .inl (fun _ => 0))), ((h 5), .inl (cy 0, 2, .inl (f 0))), ((h 12), .inl (cy 2, 2, .inl (f 1))), ((h 7), .inl (cy 0, 1200, .inl (fun _ => 0))), ((h 8), .inl (cy 0, 1200, .inl (fun _ => 0))), ((h 20), .inl (cy 2, 8, .inl (fun _ => 0))), ((h 21), .inl (cy 0, 8, .inl (fun _ => 0))), ((h 32), .inl (cy 0, 3, .inl f_4)), ((h 33), .inl (cy 0, 120, .inl (fun _ => 0))), ((h 34), .inl (cy 0, 120, .inl (fun _ => 0))), ((h 35), .inl (cy 0, 24, .inl (fun _ => 0))), ((h 36), .inl (cy 2, 24, .inl f_12)), ((h 37), .inl (cy 2, 3, .inl f_5))] := hD
  refine lv_iinc (v := 7) (lv' := [(2, .int 7), (0, .ref mo), (1, .int 0)]) hx hb dX12_image_129 hl (k := 0) rfl (by decide) (by decide) rfl ?_
  clear hl
  try clear ls
  intro ls hl
  refine lv_goto (tgt := 89) hx hb dX12_image_132 (by decide) ?_
  refine lv_iload_n hx hb dX12_image_89 rfl (lv_at hl 0 rfl) ?_
  refine lv_bipush (v := 8) hx hb dX12_image_90 (by decide) ?_
  refine lv_icmp_ge (tgt := 135) hx hb dX12_image_92 (by decide) (fun c9 => absurd c9 (by decide)) (fun _ => ?_)
  refine lv_aload_n hx hb dX12_image_95 rfl (lv_at hl 1 rfl) ?_
  refine va_get (ci := 12) (v := .ref (h 36)) (C := RX12) (T := TX12) (N := 58) hx hb ht iX12 hown hK hP 0 rfl rfl 56 (by decide) (ht _ k_308) (fun _ h9 => h9) rfl dX12_image_96 ?_
  refine lv_bipush (v := 8) hx hb dX12_image_99 (by decide) ?_
  refine lv_iload_n hx hb dX12_image_101 rfl (lv_at hl 2 rfl) ?_
  refine lv_imul hx hb dX12_image_102 ?_
  refine ow_top 0 (by decide +kernel) ?_
  refine lv_iload_n hx hb dX12_image_103 rfl (lv_at hl 0 rfl) ?_
  refine lv_iadd hx hb dX12_image_104 ?_
  refine ow_top 7 (by decide +kernel) ?_
  refine lv_aload_n hx hb dX12_image_105 rfl (lv_at hl 1 rfl) ?_
  refine va_get (ci := 12) (v := .ref (h 20)) (C := RX12) (T := TX12) (N := 58) hx hb ht iX12 hown hK hP 0 rfl rfl 35 (by decide) (ht _ k_292) (fun _ h9 => h9) rfl dX12_image_106 ?_
  refine lv_iload_n hx hb dX12_image_109 rfl (lv_at hl 0 rfl) ?_
  refine va_zald hx hb hK hP 9 2 rfl rfl (in_lit (by decide +kernel)) dX12_image_110 ?_
  refine ow_top 0 rfl ?_
  refine ow_zast hx hb hK hP hD hS 15 rfl (in_lit (by decide +kernel)) dX12_image_111 ?_
  clear hP hD hS
  try clear H locs
  intro f_13 H locs hP hD hS
  replace hP : va_P G vwCl [(mo, .inr (12, [.ref (h 0), .ref (h 1), .int 0, .int 0, .int 0, .int (-1), .int 0, .int 0, .int 0, .int 0, .long 0, .ref (h 2), .ref (h 3), .ref (h 4), .ref (h 5), .ref (h 6), .ref (h 7), .ref (h 8), .ref (h 9), .ref (h 10), .ref (h 11), .ref (h 12), .ref (h 13), .ref (h 14), .ref (h 15), .ref (h 16), .ref (h 17), .ref (h 18), .ref (h 19), .int 0, .int 0, .int 0, .int 0, .int 0, .int 0, .ref (h 20), .ref (h 21), .int 0, .ref (h 22), .ref (h 23), .ref (h 24), .ref (h 25), .ref (h 26), .int 0, .int 0, .ref (h 27), .ref (h 28), .ref (h 29), .ref (h 30), .ref (h 31), .int 0, .int 0, .ref (h 32), .ref (h 33), .ref (h 34), .ref (h 35), .ref (h 36), .ref (h 37)])), ((h 0), .inl (cy 1, 1720, .inl (fun _ => 0))), ((h 2), .inl (cy 0, 2, .inl (fun _ => 0))), ((h 3), .inl (cy 0, 2, .inl (fun _ => 0))), ((h 4), .inl (cy 0, 2, .inl (fun _ => 0))), ((h 5), .inl (cy 0, 2, .inl (f 0))), ((h 12), .inl (cy 2, 2, .inl (f 1))), ((h 7), .inl (cy 0, 1200, .inl (fun _ => 0))), ((h 8), .inl (cy 0, 1200, .inl (fun _ => 0))), ((h 20), .inl (cy 2, 8, .inl (fun _ => 0))), ((h 21), .inl (cy 0, 8, .inl (fun _ => 0))), ((h 32), .inl (cy 0, 3, .inl f_4)), ((h 33), .inl (cy 0, 120, .inl (fun _ => 0))), ((h 34), .inl (cy 0, 120, .inl (fun _ => 0))), ((h 35), .inl (cy 0, 24, .inl (fun _ => 0))), ((h 36), .inl (cy 2, 24, .inl f_13)), ((h 37), .inl (cy 2, 3, .inl f_5))] H := hP
  replace hD : va_D A [(mo, .inr (12, [.ref (h 0), .ref (h 1), .int 0, .int 0, .int 0, .int (-1), .int 0, .int 0, .int 0, .int 0, .long 0, .ref (h 2), .ref (h 3), .ref (h 4), .ref (h 5), .ref (h 6), .ref (h 7), .ref (h 8), .ref (h 9), .ref (h 10), .ref (h 11), .ref (h 12), .ref (h 13), .ref (h 14), .ref (h 15), .ref (h 16), .ref (h 17), .ref (h 18), .ref (h 19), .int 0, .int 0, .int 0, .int 0, .int 0, .int 0, .ref (h 20), .ref (h 21), .int 0, .ref (h 22), .ref (h 23), .ref (h 24), .ref (h 25), .ref (h 26), .int 0, .int 0, .ref (h 27), .ref (h 28), .ref (h 29), .ref (h 30), .ref (h 31), .int 0, .int 0, .ref (h 32), .ref (h 33), .ref (h 34), .ref (h 35), .ref (h 36), .ref (h 37)])), ((h 0), .inl (cy 1, 1720, .inl (fun _ => 0))), ((h 2), .inl (cy 0, 2, .inl (fun _ => 0))), ((h 3), .inl (cy 0, 2, .inl (fun _ => 0))), ((h 4), .inl (cy 0, 2, .inl (fun _ => 0))), ((h 5), .inl (cy 0, 2, .inl (f 0))), ((h 12), .inl (cy 2, 2, .inl (f 1))), ((h 7), .inl (cy 0, 1200, .inl (fun _ => 0))), ((h 8), .inl (cy 0, 1200, .inl (fun _ => 0))), ((h 20), .inl (cy 2, 8, .inl (fun _ => 0))), ((h 21), .inl (cy 0, 8, .inl (fun _ => 0))), ((h 32), .inl (cy 0, 3, .inl f_4)), ((h 33), .inl (cy 0, 120, .inl (fun _ => 0))), ((h 34), .inl (cy 0, 120, .inl (fun _ => 0))), ((h 35), .inl (cy 0, 24, .inl (fun _ => 0))), ((h 36), .inl (cy 2, 24, .inl f_13)), ((h 37), .inl (cy 2, 3, .inl f_5))] := hD
  refine lv_aload_n hx hb dX12_image_112 rfl (lv_at hl 1 rfl) ?_
  refine va_get (ci := 12) (v := .ref (h 35)) (C := RX12) (T := TX12) (N := 58) hx hb ht iX12 hown hK hP 0 rfl rfl 55 (by decide) (ht _ k_307) (fun _ h9 => h9) rfl dX12_image_113 ?_
  refine lv_bipush (v := 8) hx hb dX12_image_116 (by decide) ?_
  refine lv_iload_n hx hb dX12_image_118 rfl (lv_at hl 2 rfl) ?_
  refine lv_imul hx hb dX12_image_119 ?_
  refine ow_top 0 (by decide +kernel) ?_
  refine lv_iload_n hx hb dX12_image_120 rfl (lv_at hl 0 rfl) ?_
  refine lv_iadd hx hb dX12_image_121 ?_
  refine ow_top 7 (by decide +kernel) ?_
  refine lv_aload_n hx hb dX12_image_122 rfl (lv_at hl 1 rfl) ?_
  refine va_get (ci := 12) (v := .ref (h 21)) (C := RX12) (T := TX12) (N := 58) hx hb ht iX12 hown hK hP 0 rfl rfl 36 (by decide) (ht _ k_293) (fun _ h9 => h9) rfl dX12_image_123 ?_
  refine lv_iload_n hx hb dX12_image_126 rfl (lv_at hl 0 rfl) ?_
  refine va_iald hx hb hK hP 10 0 rfl rfl (in_lit (by decide +kernel)) dX12_image_127 ?_
  refine ow_top 0 rfl ?_
  refine ow_iastS hx hb hK hP hD hS 14 rfl (in_lit (by decide +kernel)) dX12_image_128 ?_
  clear hP hD hS
  try clear H locs
  intro H locs hP hD hS
  replace hP : va_P G vwCl [(mo, .inr (12, [.ref (h 0), .ref (h 1), .int 0, .int 0, .int 0, .int (-1), .int 0, .int 0, .int 0, .int 0, .long 0, .ref (h 2), .ref (h 3), .ref (h 4), .ref (h 5), .ref (h 6), .ref (h 7), .ref (h 8), .ref (h 9), .ref (h 10), .ref (h 11), .ref (h 12), .ref (h 13), .ref (h 14), .ref (h 15), .ref (h 16), .ref (h 17), .ref (h 18), .ref (h 19), .int 0, .int 0, .int 0, .int 0, .int 0, .int 0, .ref (h 20), .ref (h 21), .int 0, .ref (h 22), .ref (h 23), .ref (h 24), .ref (h 25), .ref (h 26), .int 0, .int 0, .ref (h 27), .ref (h 28), .ref (h 29), .ref (h 30), .ref (h 31), .int 0, .int 0, .ref (h 32), .ref (h 33), .ref (h 34), .ref (h 35), .ref (h 36), .ref (h 37)])), ((h 0), .inl (cy 1, 1720, .inl (fun _ => 0))), ((h 2), .inl (cy 0, 2, .inl (fun _ => 0))), ((h 3), .inl (cy 0, 2, .inl (fun _ => 0))), ((h 4), .inl (cy 0, 2, .inl (fun _ => 0))), ((h 5), .inl (cy 0, 2, .inl (f 0))), ((h 12), .inl (cy 2, 2, .inl (f 1))), ((h 7), .inl (cy 0, 1200, .inl (fun _ => 0))), ((h 8), .inl (cy 0, 1200, .inl (fun _ => 0))), ((h 20), .inl (cy 2, 8, .inl (fun _ => 0))), ((h 21), .inl (cy 0, 8, .inl (fun _ => 0))), ((h 32), .inl (cy 0, 3, .inl f_4)), ((h 33), .inl (cy 0, 120, .inl (fun _ => 0))), ((h 34), .inl (cy 0, 120, .inl (fun _ => 0))), ((h 35), .inl (cy 0, 24, .inl (fun _ => 0))), ((h 36), .inl (cy 2, 24, .inl f_13)), ((h 37), .inl (cy 2, 3, .inl f_5))] H := hP
  replace hD : va_D A [(mo, .inr (12, [.ref (h 0), .ref (h 1), .int 0, .int 0, .int 0, .int (-1), .int 0, .int 0, .int 0, .int 0, .long 0, .ref (h 2), .ref (h 3), .ref (h 4), .ref (h 5), .ref (h 6), .ref (h 7), .ref (h 8), .ref (h 9), .ref (h 10), .ref (h 11), .ref (h 12), .ref (h 13), .ref (h 14), .ref (h 15), .ref (h 16), .ref (h 17), .ref (h 18), .ref (h 19), .int 0, .int 0, .int 0, .int 0, .int 0, .int 0, .ref (h 20), .ref (h 21), .int 0, .ref (h 22), .ref (h 23), .ref (h 24), .ref (h 25), .ref (h 26), .int 0, .int 0, .ref (h 27), .ref (h 28), .ref (h 29), .ref (h 30), .ref (h 31), .int 0, .int 0, .ref (h 32), .ref (h 33), .ref (h 34), .ref (h 35), .ref (h 36), .ref (h 37)])), ((h 0), .inl (cy 1, 1720, .inl (fun _ => 0))), ((h 2), .inl (cy 0, 2, .inl (fun _ => 0))), ((h 3), .inl (cy 0, 2, .inl (fun _ => 0))), ((h 4), .inl (cy 0, 2, .inl (fun _ => 0))), ((h 5), .inl (cy 0, 2, .inl (f 0))), ((h 12), .inl (cy 2, 2, .inl (f 1))), ((h 7), .inl (cy 0, 1200, .inl (fun _ => 0))), ((h 8), .inl (cy 0, 1200, .inl (fun _ => 0))), ((h 20), .inl (cy 2, 8, .inl (fun _ => 0))), ((h 21), .inl (cy 0, 8, .inl (fun _ => 0))), ((h 32), .inl (cy 0, 3, .inl f_4)), ((h 33), .inl (cy 0, 120, .inl (fun _ => 0))), ((h 34), .inl (cy 0, 120, .inl (fun _ => 0))), ((h 35), .inl (cy 0, 24, .inl (fun _ => 0))), ((h 36), .inl (cy 2, 24, .inl f_13)), ((h 37), .inl (cy 2, 3, .inl f_5))] := hD
  refine lv_iinc (v := 8) (lv' := [(2, .int 8), (0, .ref mo), (1, .int 0)]) hx hb dX12_image_129 hl (k := 0) rfl (by decide) (by decide) rfl ?_
  clear hl
  try clear ls
  intro ls hl
  refine lv_goto (tgt := 89) hx hb dX12_image_132 (by decide) ?_
  refine lv_iload_n hx hb dX12_image_89 rfl (lv_at hl 0 rfl) ?_
  refine lv_bipush (v := 8) hx hb dX12_image_90 (by decide) ?_
  refine lv_icmp_ge (tgt := 135) hx hb dX12_image_92 (by decide) (fun _ => ?_) (fun c9 => absurd (by decide) c9)
  refine lv_aload_n hx hb dX12_image_135 rfl (lv_at hl 1 rfl) ?_
  refine va_get (ci := 12) (v := .int 0) (C := RX12) (T := TX12) (N := 58) hx hb ht iX12 hown hK hP 0 rfl rfl 34 (by decide) (ht _ k_355) (fun _ h9 => h9) rfl dX12_image_136 ?_
  refine W.widen (k := 0) (n := 0) (Nat.le_of_ble_eq_true rfl) (Nat.le_of_ble_eq_true rfl) ?_
  exact W.iret (v := 0) hx hb hr (fun t ht9 hW => ⟨⟨0, (), rfl, ⟨rfl, trivial⟩, trivial⟩, hS.F ht9⟩) hS.2.2 dX12_image_139
