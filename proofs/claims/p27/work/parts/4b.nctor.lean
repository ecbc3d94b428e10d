theorem k_796 : (Cond.methodLink RX4 3 objectInit) ∈ TBg := tb_mem 214 (by decide +kernel) (by decide +kernel)
theorem k_797 : (Cond.methodLink RX0 3 objectInit) ∈ TBg := tb_mem 399 (by decide +kernel) (by decide +kernel)
theorem k_798 : (Cond.methodLink RX1 3 objectInit) ∈ TBg := tb_mem 353 (by decide +kernel) (by decide +kernel)
theorem k_799 : (Cond.methodLink RX2 3 objectInit) ∈ TBg := tb_mem 185 (by decide +kernel) (by decide +kernel)
theorem k_800 : (Cond.methodLink RX5 3 objectInit) ∈ TBg := tb_mem 130 (by decide +kernel) (by decide +kernel)
theorem k_801 : (Cond.methodLink RX10 3 objectInit) ∈ TBg := tb_mem 327 (by decide +kernel) (by decide +kernel)
theorem k_802 : (Cond.methodLink RX8 3 objectInit) ∈ TBg := tb_mem 156 (by decide +kernel) (by decide +kernel)
theorem k_803 : (Cond.methodLink RX8 9 Lib.Math.max.name) ∈ TBg := tb_mem 157 (by decide +kernel) (by decide +kernel)
theorem k_804 : (Cond.methodLink RX7 3 objectInit) ∈ TBg := tb_mem 295 (by decide +kernel) (by decide +kernel)
theorem k_805 : (Cond.classLink RX7 9 RX8) ∈ TBg := tb_mem 296 (by decide +kernel) (by decide +kernel)
theorem k_806 : (Cond.instantiable RX8 3) ∈ TBg := tb_mem 152 (by decide +kernel) (by decide +kernel)
theorem k_807 : (Cond.code yX8_init cX8_init 2 none) ∈ TBg := tb_mem 155 (by decide +kernel) (by decide +kernel)
theorem k_808 : (Cond.methodLink RX7 11 yX8_init) ∈ TBg := tb_mem 297 (by decide +kernel) (by decide +kernel)
theorem k_809 : (Cond.instanceMethod yX8_init) ∈ TBg := tb_mem 154 (by decide +kernel) (by decide +kernel)
theorem dX4_init_0 : decode cX4_init 0 = .ok (.aload_n 0, 1) := by decide +kernel
theorem dX4_init_1 : decode cX4_init 1 = .ok (.invokespecial 3, 3) := by decide +kernel
theorem dX4_init_4 : decode cX4_init 4 = .ok (.return_, 1) := by decide +kernel
theorem dX0_init_0 : decode cX0_init 0 = .ok (.aload_n 0, 1) := by decide +kernel
theorem dX0_init_1 : decode cX0_init 1 = .ok (.invokespecial 3, 3) := by decide +kernel
theorem dX0_init_4 : decode cX0_init 4 = .ok (.aload_n 0, 1) := by decide +kernel
theorem dX0_init_5 : decode cX0_init 5 = .ok (.bipush 108, 2) := by decide +kernel
theorem dX0_init_7 : decode cX0_init 7 = .ok (.newarray .int, 2) := by decide +kernel
theorem dX0_init_9 : decode cX0_init 9 = .ok (.putfield 9, 3) := by decide +kernel
theorem dX0_init_12 : decode cX0_init 12 = .ok (.return_, 1) := by decide +kernel
theorem dX1_init_0 : decode cX1_init 0 = .ok (.aload_n 0, 1) := by decide +kernel
theorem dX1_init_1 : decode cX1_init 1 = .ok (.invokespecial 3, 3) := by decide +kernel
theorem dX1_init_4 : decode cX1_init 4 = .ok (.aload_n 0, 1) := by decide +kernel
theorem dX1_init_5 : decode cX1_init 5 = .ok (.bipush 14, 2) := by decide +kernel
theorem dX1_init_7 : decode cX1_init 7 = .ok (.newarray .int, 2) := by decide +kernel
theorem dX1_init_9 : decode cX1_init 9 = .ok (.putfield 9, 3) := by decide +kernel
theorem dX1_init_12 : decode cX1_init 12 = .ok (.return_, 1) := by decide +kernel
theorem dX2_init_0 : decode cX2_init 0 = .ok (.aload_n 0, 1) := by decide +kernel
theorem dX2_init_1 : decode cX2_init 1 = .ok (.invokespecial 3, 3) := by decide +kernel
theorem dX2_init_4 : decode cX2_init 4 = .ok (.aload_n 0, 1) := by decide +kernel
theorem dX2_init_5 : decode cX2_init 5 = .ok (.bipush 14, 2) := by decide +kernel
theorem dX2_init_7 : decode cX2_init 7 = .ok (.newarray .int, 2) := by decide +kernel
theorem dX2_init_9 : decode cX2_init 9 = .ok (.putfield 9, 3) := by decide +kernel
theorem dX2_init_12 : decode cX2_init 12 = .ok (.aload_n 0, 1) := by decide +kernel
theorem dX2_init_13 : decode cX2_init 13 = .ok (.bipush 14, 2) := by decide +kernel
theorem dX2_init_15 : decode cX2_init 15 = .ok (.newarray .int, 2) := by decide +kernel
theorem dX2_init_17 : decode cX2_init 17 = .ok (.putfield 15, 3) := by decide +kernel
theorem dX2_init_20 : decode cX2_init 20 = .ok (.aload_n 0, 1) := by decide +kernel
theorem dX2_init_21 : decode cX2_init 21 = .ok (.bipush 14, 2) := by decide +kernel
theorem dX2_init_23 : decode cX2_init 23 = .ok (.newarray .int, 2) := by decide +kernel
theorem dX2_init_25 : decode cX2_init 25 = .ok (.putfield 18, 3) := by decide +kernel
theorem dX2_init_28 : decode cX2_init 28 = .ok (.aload_n 0, 1) := by decide +kernel
theorem dX2_init_29 : decode cX2_init 29 = .ok (.bipush 14, 2) := by decide +kernel
theorem dX2_init_31 : decode cX2_init 31 = .ok (.newarray .int, 2) := by decide +kernel
theorem dX2_init_33 : decode cX2_init 33 = .ok (.putfield 21, 3) := by decide +kernel
theorem dX2_init_36 : decode cX2_init 36 = .ok (.return_, 1) := by decide +kernel
theorem dX5_init_0 : decode cX5_init 0 = .ok (.aload_n 0, 1) := by decide +kernel
theorem dX5_init_1 : decode cX5_init 1 = .ok (.invokespecial 3, 3) := by decide +kernel
theorem dX5_init_4 : decode cX5_init 4 = .ok (.aload_n 0, 1) := by decide +kernel
theorem dX5_init_5 : decode cX5_init 5 = .ok (.sipush 540, 3) := by decide +kernel
theorem dX5_init_8 : decode cX5_init 8 = .ok (.newarray .int, 2) := by decide +kernel
theorem dX5_init_10 : decode cX5_init 10 = .ok (.putfield 11, 3) := by decide +kernel
theorem dX5_init_13 : decode cX5_init 13 = .ok (.aload_n 0, 1) := by decide +kernel
theorem dX5_init_14 : decode cX5_init 14 = .ok (.sipush 540, 3) := by decide +kernel
theorem dX5_init_17 : decode cX5_init 17 = .ok (.newarray .int, 2) := by decide +kernel
theorem dX5_init_19 : decode cX5_init 19 = .ok (.putfield 15, 3) := by decide +kernel
theorem dX5_init_22 : decode cX5_init 22 = .ok (.aload_n 0, 1) := by decide +kernel
theorem dX5_init_23 : decode cX5_init 23 = .ok (.bipush 61, 2) := by decide +kernel
theorem dX5_init_25 : decode cX5_init 25 = .ok (.newarray .int, 2) := by decide +kernel
theorem dX5_init_27 : decode cX5_init 27 = .ok (.putfield 18, 3) := by decide +kernel
theorem dX5_init_30 : decode cX5_init 30 = .ok (.return_, 1) := by decide +kernel
theorem dX10_init_0 : decode cX10_init 0 = .ok (.aload_n 0, 1) := by decide +kernel
theorem dX10_init_1 : decode cX10_init 1 = .ok (.invokespecial 3, 3) := by decide +kernel
theorem dX10_init_4 : decode cX10_init 4 = .ok (.aload_n 0, 1) := by decide +kernel
theorem dX10_init_5 : decode cX10_init 5 = .ok (.bipush 30, 2) := by decide +kernel
theorem dX10_init_7 : decode cX10_init 7 = .ok (.newarray .int, 2) := by decide +kernel
theorem dX10_init_9 : decode cX10_init 9 = .ok (.putfield 9, 3) := by decide +kernel
theorem dX10_init_12 : decode cX10_init 12 = .ok (.aload_n 0, 1) := by decide +kernel
theorem dX10_init_13 : decode cX10_init 13 = .ok (.bipush 30, 2) := by decide +kernel
theorem dX10_init_15 : decode cX10_init 15 = .ok (.newarray .boolean, 2) := by decide +kernel
theorem dX10_init_17 : decode cX10_init 17 = .ok (.putfield 15, 3) := by decide +kernel
theorem dX10_init_20 : decode cX10_init 20 = .ok (.aload_n 0, 1) := by decide +kernel
theorem dX10_init_21 : decode cX10_init 21 = .ok (.bipush 30, 2) := by decide +kernel
theorem dX10_init_23 : decode cX10_init 23 = .ok (.newarray .boolean, 2) := by decide +kernel
theorem dX10_init_25 : decode cX10_init 25 = .ok (.putfield 19, 3) := by decide +kernel
theorem dX10_init_28 : decode cX10_init 28 = .ok (.aload_n 0, 1) := by decide +kernel
theorem dX10_init_29 : decode cX10_init 29 = .ok (.bipush 30, 2) := by decide +kernel
theorem dX10_init_31 : decode cX10_init 31 = .ok (.newarray .int, 2) := by decide +kernel
theorem dX10_init_33 : decode cX10_init 33 = .ok (.putfield 22, 3) := by decide +kernel
theorem dX10_init_36 : decode cX10_init 36 = .ok (.aload_n 0, 1) := by decide +kernel
theorem dX10_init_37 : decode cX10_init 37 = .ok (.bipush 30, 2) := by decide +kernel
theorem dX10_init_39 : decode cX10_init 39 = .ok (.newarray .int, 2) := by decide +kernel
theorem dX10_init_41 : decode cX10_init 41 = .ok (.putfield 25, 3) := by decide +kernel
theorem dX10_init_44 : decode cX10_init 44 = .ok (.return_, 1) := by decide +kernel
theorem dX8_init_0 : decode cX8_init 0 = .ok (.aload_n 0, 1) := by decide +kernel
theorem dX8_init_1 : decode cX8_init 1 = .ok (.invokespecial 3, 3) := by decide +kernel
theorem dX8_init_4 : decode cX8_init 4 = .ok (.aload_n 0, 1) := by decide +kernel
theorem dX8_init_5 : decode cX8_init 5 = .ok (.iload_n 1, 1) := by decide +kernel
theorem dX8_init_6 : decode cX8_init 6 = .ok (.iconst 0, 1) := by decide +kernel
theorem dX8_init_7 : decode cX8_init 7 = .ok (.invokestatic 9, 3) := by decide +kernel
theorem dX8_init_10 : decode cX8_init 10 = .ok (.newarray .int, 2) := by decide +kernel
theorem dX8_init_12 : decode cX8_init 12 = .ok (.putfield 15, 3) := by decide +kernel
theorem dX8_init_15 : decode cX8_init 15 = .ok (.aload_n 0, 1) := by decide +kernel
theorem dX8_init_16 : decode cX8_init 16 = .ok (.iload_n 1, 1) := by decide +kernel
theorem dX8_init_17 : decode cX8_init 17 = .ok (.iconst 0, 1) := by decide +kernel
theorem dX8_init_18 : decode cX8_init 18 = .ok (.invokestatic 9, 3) := by decide +kernel
theorem dX8_init_21 : decode cX8_init 21 = .ok (.newarray .int, 2) := by decide +kernel
theorem dX8_init_23 : decode cX8_init 23 = .ok (.putfield 21, 3) := by decide +kernel
theorem dX8_init_26 : decode cX8_init 26 = .ok (.return_, 1) := by decide +kernel
theorem dX7_init_0 : decode cX7_init 0 = .ok (.aload_n 0, 1) := by decide +kernel
theorem dX7_init_1 : decode cX7_init 1 = .ok (.invokespecial 3, 3) := by decide +kernel
theorem dX7_init_4 : decode cX7_init 4 = .ok (.aload_n 0, 1) := by decide +kernel
theorem dX7_init_5 : decode cX7_init 5 = .ok (.new 9, 3) := by decide +kernel
theorem dX7_init_8 : decode cX7_init 8 = .ok (.dup, 1) := by decide +kernel
theorem dX7_init_9 : decode cX7_init 9 = .ok (.bipush 40, 2) := by decide +kernel
theorem dX7_init_11 : decode cX7_init 11 = .ok (.invokespecial 11, 3) := by decide +kernel
theorem dX7_init_14 : decode cX7_init 14 = .ok (.putfield 14, 3) := by decide +kernel
theorem dX7_init_17 : decode cX7_init 17 = .ok (.aload_n 0, 1) := by decide +kernel
theorem dX7_init_18 : decode cX7_init 18 = .ok (.bipush 8, 2) := by decide +kernel
theorem dX7_init_20 : decode cX7_init 20 = .ok (.newarray .int, 2) := by decide +kernel
theorem dX7_init_22 : decode cX7_init 22 = .ok (.putfield 20, 3) := by decide +kernel
theorem dX7_init_25 : decode cX7_init 25 = .ok (.return_, 1) := by decide +kernel
set_option maxHeartbeats 4000000 in
set_option maxRecDepth 100000 in
theorem n_Lock (l : Launch) (G : va_G) (cy : Nat → ClassId) (sz : Nat) (h : Nat)  : Met l yX4_init (.code yX4_init cX4_init 1 none :: TBg) ({ frames := 1, cells := 0, slots := 0, locals := 64 }) (va_Pc [.ref h] (En G cy [(h, .inr (4, [.long 0, .int 0, .int 0, .int 0, .int 0, .int 0]))] sz)) (va_Qv (fun u : Unit => True) (fun u t => Ex G (va_A [(h, .inr (4, [.long 0, .int 0, .int 0, .int 0, .int 0, .int 0]))] sz) [(h, .inr (4, [.long 0, .int 0, .int 0, .int 0, .int 0, .int 0]))] t) (va_A [(h, .inr (4, [.long 0, .int 0, .int 0, .int 0, .int 0, .int 0]))] sz)) 0 0 (va_A [(h, .inr (4, [.long 0, .int 0, .int 0, .int 0, .int 0, .int 0]))] sz) := by
  refine Met.ofW (cc := cX4_init) (maxL := 1) (ret := none) (by decide) rfl ?_
  intro p e s m args below meth c s₁ B hml hv
  obtain ⟨rfl, hsz, hP, hK, hD0, hN⟩ := hv
  have hx := B.exec
  have hb := B.bytes
  have hr := B.returns
  have hts := atoms_spec (ws := .code yX4_init cX4_init 1 none :: TBg) B.pre
  have ht : ∀ w ∈ TBg, w.before _ s = true := fun w h => hts w (List.mem_cons_of_mem _ h)
  have hown : s.vm.findClass RX4 = some m.cls := findClass_of_methodNamed B.named
  have hlocks := B.notSynchronized
  have hin : meth.name = "<init>" := (name_of_methodNamed B.named B.method).1
  subst hsz
  have hD := hD0.self (sz := s.heap.size)
  generalize hAe : va_A [(h, .inr (4, [.long 0, .int 0, .int 0, .int 0, .int 0, .int 0]))] s.heap.size = A at hD ⊢
  have hA : ∀ q : Nat, s.heap.size ≤ q → A q := fun q h => by rw [← hAe]; exact Or.inr h
  have hS : va_S A s.heap s.heap [] := va_S.rf
  have hl := lv_entry ([.ref h]) (n := 1) (Nat.le_of_ble_eq_true rfl)
  rw [lg_entry_eq]
  generalize (lg_sl ([.ref h]) ++ List.replicate (1 - (lg_sl ([.ref h])).length) Slot.unset).toArray = ls at hl ⊢
  have hl : lv_has ls 1 [(0, .ref h)] := hl
  refine lv_aload_n hx hb dX4_init_0 rfl (lv_at hl 0 rfl) ?_
  refine W.objInit hx hb hown (ht _ k_796) (ht _ k_767) (ht _ k_768) rfl (by rw [hml]; exact hl.1) rfl dX4_init_1 (Nat.le_of_ble_eq_true rfl) (Nat.le_of_ble_eq_true rfl) ?_
  refine W.eq (g2 := F0 m 4 ls []) rfl ?_
  refine W.widen (k := 0) (n := 0) (Nat.le_of_ble_eq_true rfl) (Nat.le_of_ble_eq_true rfl) ?_
  have hP9 : va_P G vwCl [(h, .inr (4, [.long 0, .int 0, .int 0, .int 0, .int 0, .int 0]))] _ := hP.sub [0] rfl
  have hD9 : va_D A [(h, .inr (4, [.long 0, .int 0, .int 0, .int 0, .int 0, .int 0]))] := hD.sub [0] (by decide) rfl
  exact W.vret hx hb hr (fun t ht9 hW => ⟨⟨(), rfl, trivial, ⟨by rw [ht9]; exact hP9, hD9⟩⟩, hS.F ht9⟩) hS.2.2 dX4_init_4
set_option maxHeartbeats 4000000 in
set_option maxRecDepth 100000 in
theorem n_Canon (l : Launch) (G : va_G) (cy : Nat → ClassId) (sz : Nat) (h : Nat)  : Met l yX0_init (.code yX0_init cX0_init 1 none :: TBg) ({ frames := 1, cells := 1, slots := 108, locals := 64 }) (va_Pc [.ref h] (En G cy [(h, .inr (0, [.null, .int 0]))] sz)) (va_Qv (fun u : Nat → Nat => True) (fun u t => Ex G (va_A [(h, .inr (0, [.null, .int 0]))] sz) [(h, .inr (0, [.ref (u 0), .int 0])), ((u 0), .inl (cy 0, 108, .inl (fun _ => 0)))] t) (va_A [(h, .inr (0, [.null, .int 0]))] sz)) 1 108 (va_A [(h, .inr (0, [.null, .int 0]))] sz) := by
  refine Met.ofW (cc := cX0_init) (maxL := 1) (ret := none) (by decide) rfl ?_
  intro p e s m args below meth c s₁ B hml hv
  obtain ⟨rfl, hsz, hP, hK, hD0, hN⟩ := hv
  have hx := B.exec
  have hb := B.bytes
  have hr := B.returns
  have hts := atoms_spec (ws := .code yX0_init cX0_init 1 none :: TBg) B.pre
  have ht : ∀ w ∈ TBg, w.before _ s = true := fun w h => hts w (List.mem_cons_of_mem _ h)
  have hown : s.vm.findClass RX0 = some m.cls := findClass_of_methodNamed B.named
  have hlocks := B.notSynchronized
  have hin : meth.name = "<init>" := (name_of_methodNamed B.named B.method).1
  subst hsz
  have hD := hD0.self (sz := s.heap.size)
  generalize hAe : va_A [(h, .inr (0, [.null, .int 0]))] s.heap.size = A at hD ⊢
  have hA : ∀ q : Nat, s.heap.size ≤ q → A q := fun q h => by rw [← hAe]; exact Or.inr h
  have hS : va_S A s.heap s.heap [] := va_S.rf
  have hl := lv_entry ([.ref h]) (n := 1) (Nat.le_of_ble_eq_true rfl)
  rw [lg_entry_eq]
  generalize (lg_sl ([.ref h]) ++ List.replicate (1 - (lg_sl ([.ref h])).length) Slot.unset).toArray = ls at hl ⊢
  have hl : lv_has ls 1 [(0, .ref h)] := hl
  refine lv_aload_n hx hb dX0_init_0 rfl (lv_at hl 0 rfl) ?_
  refine W.objInit hx hb hown (ht _ k_797) (ht _ k_767) (ht _ k_768) rfl (by rw [hml]; exact hl.1) rfl dX0_init_1 (Nat.le_of_ble_eq_true rfl) (Nat.le_of_ble_eq_true rfl) ?_
  refine W.eq (g2 := F0 m 4 ls []) rfl ?_
  refine lv_aload_n hx hb dX0_init_4 rfl (lv_at hl 0 rfl) ?_
  refine lv_bipush (v := 108) hx hb dX0_init_5 (by decide) ?_
  refine ow_newa (N' := 108) (atype := .int) (ty := .int) (a0 := (108, .inl (fun _ => 0))) hx hb (ht _ k_793) rfl hK hP hD hS hA 0 rfl (fun _ => rfl) (by decide) (by decide +kernel) (by decide) (Nat.le_of_ble_eq_true rfl) (Nat.le_of_ble_eq_true rfl) dX0_init_7 (fun q_1 H hP hD hS => ?_)
  refine va_putF (ci := 0) (v := .ref q_1) (ty := .array (.int)) (C := RX0) (T := TX0) (N := 2) hx hb ht iX0 tyX0 tyX0_ok nmX0 hown hK hP hD hS 0 rfl rfl 0 (by decide) (ht _ k_333) (fun _ h9 => h9) rfl hin rfl (by decide +kernel) rfl rfl (Nat.le_of_ble_eq_true rfl) dX0_init_9 (fun H locs hP hD hS => ?_)
  have hP : va_P G vwCl [(h, .inr (0, [.ref q_1, .int 0])), (q_1, .inl (cy 0, 108, .inl (fun _ => 0)))] H := hP
  have hD : va_D A [(h, .inr (0, [.ref q_1, .int 0])), (q_1, .inl (cy 0, 108, .inl (fun _ => 0)))] := hD
  refine W.widen (k := 1) (n := 108) (Nat.le_of_ble_eq_true rfl) (Nat.le_of_ble_eq_true rfl) ?_
  have hP9 : va_P G vwCl [(h, .inr (0, [.ref ((lst [q_1]) 0), .int 0])), (((lst [q_1]) 0), .inl (cy 0, 108, .inl (fun _ => 0)))] _ := hP.sub [0, 1] rfl
  have hD9 : va_D A [(h, .inr (0, [.ref ((lst [q_1]) 0), .int 0])), (((lst [q_1]) 0), .inl (cy 0, 108, .inl (fun _ => 0)))] := hD.sub [0, 1] (by decide) rfl
  exact W.vret hx hb hr (fun t ht9 hW => ⟨⟨(lst [q_1]), rfl, trivial, ⟨by rw [ht9]; exact hP9, hD9⟩⟩, hS.F ht9⟩) hS.2.2 dX0_init_12
set_option maxHeartbeats 4000000 in
set_option maxRecDepth 100000 in
theorem n_Deal (l : Launch) (G : va_G) (cy : Nat → ClassId) (sz : Nat) (h : Nat)  : Met l yX1_init (.code yX1_init cX1_init 1 none :: TBg) ({ frames := 1, cells := 1, slots := 14, locals := 64 }) (va_Pc [.ref h] (En G cy [(h, .inr (1, [.null, .int 0, .int 0]))] sz)) (va_Qv (fun u : Nat → Nat => True) (fun u t => Ex G (va_A [(h, .inr (1, [.null, .int 0, .int 0]))] sz) [(h, .inr (1, [.ref (u 0), .int 0, .int 0])), ((u 0), .inl (cy 0, 14, .inl (fun _ => 0)))] t) (va_A [(h, .inr (1, [.null, .int 0, .int 0]))] sz)) 1 14 (va_A [(h, .inr (1, [.null, .int 0, .int 0]))] sz) := by
  refine Met.ofW (cc := cX1_init) (maxL := 1) (ret := none) (by decide) rfl ?_
  intro p e s m args below meth c s₁ B hml hv
  obtain ⟨rfl, hsz, hP, hK, hD0, hN⟩ := hv
  have hx := B.exec
  have hb := B.bytes
  have hr := B.returns
  have hts := atoms_spec (ws := .code yX1_init cX1_init 1 none :: TBg) B.pre
  have ht : ∀ w ∈ TBg, w.before _ s = true := fun w h => hts w (List.mem_cons_of_mem _ h)
  have hown : s.vm.findClass RX1 = some m.cls := findClass_of_methodNamed B.named
  have hlocks := B.notSynchronized
  have hin : meth.name = "<init>" := (name_of_methodNamed B.named B.method).1
  subst hsz
  have hD := hD0.self (sz := s.heap.size)
  generalize hAe : va_A [(h, .inr (1, [.null, .int 0, .int 0]))] s.heap.size = A at hD ⊢
  have hA : ∀ q : Nat, s.heap.size ≤ q → A q := fun q h => by rw [← hAe]; exact Or.inr h
  have hS : va_S A s.heap s.heap [] := va_S.rf
  have hl := lv_entry ([.ref h]) (n := 1) (Nat.le_of_ble_eq_true rfl)
  rw [lg_entry_eq]
  generalize (lg_sl ([.ref h]) ++ List.replicate (1 - (lg_sl ([.ref h])).length) Slot.unset).toArray = ls at hl ⊢
  have hl : lv_has ls 1 [(0, .ref h)] := hl
  refine lv_aload_n hx hb dX1_init_0 rfl (lv_at hl 0 rfl) ?_
  refine W.objInit hx hb hown (ht _ k_798) (ht _ k_767) (ht _ k_768) rfl (by rw [hml]; exact hl.1) rfl dX1_init_1 (Nat.le_of_ble_eq_true rfl) (Nat.le_of_ble_eq_true rfl) ?_
  refine W.eq (g2 := F0 m 4 ls []) rfl ?_
  refine lv_aload_n hx hb dX1_init_4 rfl (lv_at hl 0 rfl) ?_
  refine lv_bipush (v := 14) hx hb dX1_init_5 (by decide) ?_
  refine ow_newa (N' := 14) (atype := .int) (ty := .int) (a0 := (14, .inl (fun _ => 0))) hx hb (ht _ k_793) rfl hK hP hD hS hA 0 rfl (fun _ => rfl) (by decide) (by decide +kernel) (by decide) (Nat.le_of_ble_eq_true rfl) (Nat.le_of_ble_eq_true rfl) dX1_init_7 (fun q_1 H hP hD hS => ?_)
  refine va_putF (ci := 1) (v := .ref q_1) (ty := .array (.int)) (C := RX1) (T := TX1) (N := 3) hx hb ht iX1 tyX1 tyX1_ok nmX1 hown hK hP hD hS 0 rfl rfl 0 (by decide) (ht _ k_335) (fun _ h9 => h9) rfl hin rfl (by decide +kernel) rfl rfl (Nat.le_of_ble_eq_true rfl) dX1_init_9 (fun H locs hP hD hS => ?_)
  have hP : va_P G vwCl [(h, .inr (1, [.ref q_1, .int 0, .int 0])), (q_1, .inl (cy 0, 14, .inl (fun _ => 0)))] H := hP
  have hD : va_D A [(h, .inr (1, [.ref q_1, .int 0, .int 0])), (q_1, .inl (cy 0, 14, .inl (fun _ => 0)))] := hD
  refine W.widen (k := 1) (n := 14) (Nat.le_of_ble_eq_true rfl) (Nat.le_of_ble_eq_true rfl) ?_
  have hP9 : va_P G vwCl [(h, .inr (1, [.ref ((lst [q_1]) 0), .int 0, .int 0])), (((lst [q_1]) 0), .inl (cy 0, 14, .inl (fun _ => 0)))] _ := hP.sub [0, 1] rfl
  have hD9 : va_D A [(h, .inr (1, [.ref ((lst [q_1]) 0), .int 0, .int 0])), (((lst [q_1]) 0), .inl (cy 0, 14, .inl (fun _ => 0)))] := hD.sub [0, 1] (by decide) rfl
  exact W.vret hx hb hr (fun t ht9 hW => ⟨⟨(lst [q_1]), rfl, trivial, ⟨by rw [ht9]; exact hP9, hD9⟩⟩, hS.F ht9⟩) hS.2.2 dX1_init_12
set_option maxHeartbeats 4000000 in
set_option maxRecDepth 100000 in
theorem n_Hearing (l : Launch) (G : va_G) (cy : Nat → ClassId) (sz : Nat) (h : Nat)  : Met l yX2_init (.code yX2_init cX2_init 1 none :: TBg) ({ frames := 1, cells := 4, slots := 56, locals := 64 }) (va_Pc [.ref h] (En G cy [(h, .inr (2, [.null, .null, .null, .null, .int 0]))] sz)) (va_Qv (fun u : Nat → Nat => True) (fun u t => Ex G (va_A [(h, .inr (2, [.null, .null, .null, .null, .int 0]))] sz) [(h, .inr (2, [.ref (u 0), .ref (u 1), .ref (u 2), .ref (u 3), .int 0])), ((u 0), .inl (cy 0, 14, .inl (fun _ => 0))), ((u 1), .inl (cy 0, 14, .inl (fun _ => 0))), ((u 2), .inl (cy 0, 14, .inl (fun _ => 0))), ((u 3), .inl (cy 0, 14, .inl (fun _ => 0)))] t) (va_A [(h, .inr (2, [.null, .null, .null, .null, .int 0]))] sz)) 4 56 (va_A [(h, .inr (2, [.null, .null, .null, .null, .int 0]))] sz) := by
  refine Met.ofW (cc := cX2_init) (maxL := 1) (ret := none) (by decide) rfl ?_
  intro p e s m args below meth c s₁ B hml hv
  obtain ⟨rfl, hsz, hP, hK, hD0, hN⟩ := hv
  have hx := B.exec
  have hb := B.bytes
  have hr := B.returns
  have hts := atoms_spec (ws := .code yX2_init cX2_init 1 none :: TBg) B.pre
  have ht : ∀ w ∈ TBg, w.before _ s = true := fun w h => hts w (List.mem_cons_of_mem _ h)
  have hown : s.vm.findClass RX2 = some m.cls := findClass_of_methodNamed B.named
  have hlocks := B.notSynchronized
  have hin : meth.name = "<init>" := (name_of_methodNamed B.named B.method).1
  subst hsz
  have hD := hD0.self (sz := s.heap.size)
  generalize hAe : va_A [(h, .inr (2, [.null, .null, .null, .null, .int 0]))] s.heap.size = A at hD ⊢
  have hA : ∀ q : Nat, s.heap.size ≤ q → A q := fun q h => by rw [← hAe]; exact Or.inr h
  have hS : va_S A s.heap s.heap [] := va_S.rf
  have hl := lv_entry ([.ref h]) (n := 1) (Nat.le_of_ble_eq_true rfl)
  rw [lg_entry_eq]
  generalize (lg_sl ([.ref h]) ++ List.replicate (1 - (lg_sl ([.ref h])).length) Slot.unset).toArray = ls at hl ⊢
  have hl : lv_has ls 1 [(0, .ref h)] := hl
  refine lv_aload_n hx hb dX2_init_0 rfl (lv_at hl 0 rfl) ?_
  refine W.objInit hx hb hown (ht _ k_799) (ht _ k_767) (ht _ k_768) rfl (by rw [hml]; exact hl.1) rfl dX2_init_1 (Nat.le_of_ble_eq_true rfl) (Nat.le_of_ble_eq_true rfl) ?_
  refine W.eq (g2 := F0 m 4 ls []) rfl ?_
  refine lv_aload_n hx hb dX2_init_4 rfl (lv_at hl 0 rfl) ?_
  refine lv_bipush (v := 14) hx hb dX2_init_5 (by decide) ?_
  refine ow_newa (N' := 14) (atype := .int) (ty := .int) (a0 := (14, .inl (fun _ => 0))) hx hb (ht _ k_793) rfl hK hP hD hS hA 0 rfl (fun _ => rfl) (by decide) (by decide +kernel) (by decide) (Nat.le_of_ble_eq_true rfl) (Nat.le_of_ble_eq_true rfl) dX2_init_7 (fun q_1 H hP hD hS => ?_)
  refine va_putF (ci := 2) (v := .ref q_1) (ty := .array (.int)) (C := RX2) (T := TX2) (N := 5) hx hb ht iX2 tyX2 tyX2_ok nmX2 hown hK hP hD hS 0 rfl rfl 0 (by decide) (ht _ k_338) (fun _ h9 => h9) rfl hin rfl (by decide +kernel) rfl rfl (Nat.le_of_ble_eq_true rfl) dX2_init_9 (fun H locs hP hD hS => ?_)
  have hP : va_P G vwCl [(h, .inr (2, [.ref q_1, .null, .null, .null, .int 0])), (q_1, .inl (cy 0, 14, .inl (fun _ => 0)))] H := hP
  have hD : va_D A [(h, .inr (2, [.ref q_1, .null, .null, .null, .int 0])), (q_1, .inl (cy 0, 14, .inl (fun _ => 0)))] := hD
  refine lv_aload_n hx hb dX2_init_12 rfl (lv_at hl 0 rfl) ?_
  refine lv_bipush (v := 14) hx hb dX2_init_13 (by decide) ?_
  refine ow_newa (N' := 14) (atype := .int) (ty := .int) (a0 := (14, .inl (fun _ => 0))) hx hb (ht _ k_793) rfl hK hP hD hS hA 0 rfl (fun _ => rfl) (by decide) (by decide +kernel) (by decide) (Nat.le_of_ble_eq_true rfl) (Nat.le_of_ble_eq_true rfl) dX2_init_15 (fun q_2 H hP hD hS => ?_)
  refine va_putF (ci := 2) (v := .ref q_2) (ty := .array (.int)) (C := RX2) (T := TX2) (N := 5) hx hb ht iX2 tyX2 tyX2_ok nmX2 hown hK hP hD hS 0 rfl rfl 1 (by decide) (ht _ k_339) (fun _ h9 => h9) rfl hin rfl (by decide +kernel) rfl rfl (Nat.le_of_ble_eq_true rfl) dX2_init_17 (fun H locs hP hD hS => ?_)
  have hP : va_P G vwCl [(h, .inr (2, [.ref q_1, .ref q_2, .null, .null, .int 0])), (q_1, .inl (cy 0, 14, .inl (fun _ => 0))), (q_2, .inl (cy 0, 14, .inl (fun _ => 0)))] H := hP
  have hD : va_D A [(h, .inr (2, [.ref q_1, .ref q_2, .null, .null, .int 0])), (q_1, .inl (cy 0, 14, .inl (fun _ => 0))), (q_2, .inl (cy 0, 14, .inl (fun _ => 0)))] := hD
  refine lv_aload_n hx hb dX2_init_20 rfl (lv_at hl 0 rfl) ?_
  refine lv_bipush (v := 14) hx hb dX2_init_21 (by decide) ?_
  refine ow_newa (N' := 14) (atype := .int) (ty := .int) (a0 := (14, .inl (fun _ => 0))) hx hb (ht _ k_793) rfl hK hP hD hS hA 0 rfl (fun _ => rfl) (by decide) (by decide +kernel) (by decide) (Nat.le_of_ble_eq_true rfl) (Nat.le_of_ble_eq_true rfl) dX2_init_23 (fun q_3 H hP hD hS => ?_)
  refine va_putF (ci := 2) (v := .ref q_3) (ty := .array (.int)) (C := RX2) (T := TX2) (N := 5) hx hb ht iX2 tyX2 tyX2_ok nmX2 hown hK hP hD hS 0 rfl rfl 2 (by decide) (ht _ k_340) (fun _ h9 => h9) rfl hin rfl (by decide +kernel) rfl rfl (Nat.le_of_ble_eq_true rfl) dX2_init_25 (fun H locs hP hD hS => ?_)
  have hP : va_P G vwCl [(h, .inr (2, [.ref q_1, .ref q_2, .ref q_3, .null, .int 0])), (q_1, .inl (cy 0, 14, .inl (fun _ => 0))), (q_2, .inl (cy 0, 14, .inl (fun _ => 0))), (q_3, .inl (cy 0, 14, .inl (fun _ => 0)))] H := hP
  have hD : va_D A [(h, .inr (2, [.ref q_1, .ref q_2, .ref q_3, .null, .int 0])), (q_1, .inl (cy 0, 14, .inl (fun _ => 0))), (q_2, .inl (cy 0, 14, .inl (fun _ => 0))), (q_3, .inl (cy 0, 14, .inl (fun _ => 0)))] := hD
  refine lv_aload_n hx hb dX2_init_28 rfl (lv_at hl 0 rfl) ?_
  refine lv_bipush (v := 14) hx hb dX2_init_29 (by decide) ?_
  refine ow_newa (N' := 14) (atype := .int) (ty := .int) (a0 := (14, .inl (fun _ => 0))) hx hb (ht _ k_793) rfl hK hP hD hS hA 0 rfl (fun _ => rfl) (by decide) (by decide +kernel) (by decide) (Nat.le_of_ble_eq_true rfl) (Nat.le_of_ble_eq_true rfl) dX2_init_31 (fun q_4 H hP hD hS => ?_)
  refine va_putF (ci := 2) (v := .ref q_4) (ty := .array (.int)) (C := RX2) (T := TX2) (N := 5) hx hb ht iX2 tyX2 tyX2_ok nmX2 hown hK hP hD hS 0 rfl rfl 3 (by decide) (ht _ k_341) (fun _ h9 => h9) rfl hin rfl (by decide +kernel) rfl rfl (Nat.le_of_ble_eq_true rfl) dX2_init_33 (fun H locs hP hD hS => ?_)
  have hP : va_P G vwCl [(h, .inr (2, [.ref q_1, .ref q_2, .ref q_3, .ref q_4, .int 0])), (q_1, .inl (cy 0, 14, .inl (fun _ => 0))), (q_2, .inl (cy 0, 14, .inl (fun _ => 0))), (q_3, .inl (cy 0, 14, .inl (fun _ => 0))), (q_4, .inl (cy 0, 14, .inl (fun _ => 0)))] H := hP
  have hD : va_D A [(h, .inr (2, [.ref q_1, .ref q_2, .ref q_3, .ref q_4, .int 0])), (q_1, .inl (cy 0, 14, .inl (fun _ => 0))), (q_2, .inl (cy 0, 14, .inl (fun _ => 0))), (q_3, .inl (cy 0, 14, .inl (fun _ => 0))), (q_4, .inl (cy 0, 14, .inl (fun _ => 0)))] := hD
  refine W.widen (k := 4) (n := 56) (Nat.le_of_ble_eq_true rfl) (Nat.le_of_ble_eq_true rfl) ?_
  have hP9 : va_P G vwCl [(h, .inr (2, [.ref ((lst [q_1, q_2, q_3, q_4]) 0), .ref ((lst [q_1, q_2, q_3, q_4]) 1), .ref ((lst [q_1, q_2, q_3, q_4]) 2), .ref ((lst [q_1, q_2, q_3, q_4]) 3), .int 0])), (((lst [q_1, q_2, q_3, q_4]) 0), .inl (cy 0, 14, .inl (fun _ => 0))), (((lst [q_1, q_2, q_3, q_4]) 1), .inl (cy 0, 14, .inl (fun _ => 0))), (((lst [q_1, q_2, q_3, q_4]) 2), .inl (cy 0, 14, .inl (fun _ => 0))), (((lst [q_1, q_2, q_3, q_4]) 3), .inl (cy 0, 14, .inl (fun _ => 0)))] _ := hP.sub [0, 1, 2, 3, 4] rfl
  have hD9 : va_D A [(h, .inr (2, [.ref ((lst [q_1, q_2, q_3, q_4]) 0), .ref ((lst [q_1, q_2, q_3, q_4]) 1), .ref ((lst [q_1, q_2, q_3, q_4]) 2), .ref ((lst [q_1, q_2, q_3, q_4]) 3), .int 0])), (((lst [q_1, q_2, q_3, q_4]) 0), .inl (cy 0, 14, .inl (fun _ => 0))), (((lst [q_1, q_2, q_3, q_4]) 1), .inl (cy 0, 14, .inl (fun _ => 0))), (((lst [q_1, q_2, q_3, q_4]) 2), .inl (cy 0, 14, .inl (fun _ => 0))), (((lst [q_1, q_2, q_3, q_4]) 3), .inl (cy 0, 14, .inl (fun _ => 0)))] := hD.sub [0, 1, 2, 3, 4] (by decide) rfl
  exact W.vret hx hb hr (fun t ht9 hW => ⟨⟨(lst [q_1, q_2, q_3, q_4]), rfl, trivial, ⟨by rw [ht9]; exact hP9, hD9⟩⟩, hS.F ht9⟩) hS.2.2 dX2_init_36
set_option maxHeartbeats 4000000 in
set_option maxRecDepth 100000 in
theorem n_Questions (l : Launch) (G : va_G) (cy : Nat → ClassId) (sz : Nat) (h : Nat)  : Met l yX5_init (.code yX5_init cX5_init 1 none :: TBg) ({ frames := 1, cells := 3, slots := 1141, locals := 64 }) (va_Pc [.ref h] (En G cy [(h, .inr (5, [.null, .null, .int 0, .null, .int 0]))] sz)) (va_Qv (fun u : Nat → Nat => True) (fun u t => Ex G (va_A [(h, .inr (5, [.null, .null, .int 0, .null, .int 0]))] sz) [(h, .inr (5, [.ref (u 0), .ref (u 1), .int 0, .ref (u 2), .int 0])), ((u 0), .inl (cy 0, 540, .inl (fun _ => 0))), ((u 1), .inl (cy 0, 540, .inl (fun _ => 0))), ((u 2), .inl (cy 0, 61, .inl (fun _ => 0)))] t) (va_A [(h, .inr (5, [.null, .null, .int 0, .null, .int 0]))] sz)) 3 1141 (va_A [(h, .inr (5, [.null, .null, .int 0, .null, .int 0]))] sz) := by
  refine Met.ofW (cc := cX5_init) (maxL := 1) (ret := none) (by decide) rfl ?_
  intro p e s m args below meth c s₁ B hml hv
  obtain ⟨rfl, hsz, hP, hK, hD0, hN⟩ := hv
  have hx := B.exec
  have hb := B.bytes
  have hr := B.returns
  have hts := atoms_spec (ws := .code yX5_init cX5_init 1 none :: TBg) B.pre
  have ht : ∀ w ∈ TBg, w.before _ s = true := fun w h => hts w (List.mem_cons_of_mem _ h)
  have hown : s.vm.findClass RX5 = some m.cls := findClass_of_methodNamed B.named
  have hlocks := B.notSynchronized
  have hin : meth.name = "<init>" := (name_of_methodNamed B.named B.method).1
  subst hsz
  have hD := hD0.self (sz := s.heap.size)
  generalize hAe : va_A [(h, .inr (5, [.null, .null, .int 0, .null, .int 0]))] s.heap.size = A at hD ⊢
  have hA : ∀ q : Nat, s.heap.size ≤ q → A q := fun q h => by rw [← hAe]; exact Or.inr h
  have hS : va_S A s.heap s.heap [] := va_S.rf
  have hl := lv_entry ([.ref h]) (n := 1) (Nat.le_of_ble_eq_true rfl)
  rw [lg_entry_eq]
  generalize (lg_sl ([.ref h]) ++ List.replicate (1 - (lg_sl ([.ref h])).length) Slot.unset).toArray = ls at hl ⊢
  have hl : lv_has ls 1 [(0, .ref h)] := hl
  refine lv_aload_n hx hb dX5_init_0 rfl (lv_at hl 0 rfl) ?_
  refine W.objInit hx hb hown (ht _ k_800) (ht _ k_767) (ht _ k_768) rfl (by rw [hml]; exact hl.1) rfl dX5_init_1 (Nat.le_of_ble_eq_true rfl) (Nat.le_of_ble_eq_true rfl) ?_
  refine W.eq (g2 := F0 m 4 ls []) rfl ?_
  refine lv_aload_n hx hb dX5_init_4 rfl (lv_at hl 0 rfl) ?_
  refine lv_sipush (v := 540) hx hb dX5_init_5 (by decide) ?_
  refine ow_newa (N' := 540) (atype := .int) (ty := .int) (a0 := (540, .inl (fun _ => 0))) hx hb (ht _ k_793) rfl hK hP hD hS hA 0 rfl (fun _ => rfl) (by decide) (by decide +kernel) (by decide) (Nat.le_of_ble_eq_true rfl) (Nat.le_of_ble_eq_true rfl) dX5_init_8 (fun q_1 H hP hD hS => ?_)
  refine va_putF (ci := 5) (v := .ref q_1) (ty := .array (.int)) (C := RX5) (T := TX5) (N := 5) hx hb ht iX5 tyX5 tyX5_ok nmX5 hown hK hP hD hS 0 rfl rfl 0 (by decide) (ht _ k_353) (fun _ h9 => h9) rfl hin rfl (by decide +kernel) rfl rfl (Nat.le_of_ble_eq_true rfl) dX5_init_10 (fun H locs hP hD hS => ?_)
  have hP : va_P G vwCl [(h, .inr (5, [.ref q_1, .null, .int 0, .null, .int 0])), (q_1, .inl (cy 0, 540, .inl (fun _ => 0)))] H := hP
  have hD : va_D A [(h, .inr (5, [.ref q_1, .null, .int 0, .null, .int 0])), (q_1, .inl (cy 0, 540, .inl (fun _ => 0)))] := hD
  refine lv_aload_n hx hb dX5_init_13 rfl (lv_at hl 0 rfl) ?_
  refine lv_sipush (v := 540) hx hb dX5_init_14 (by decide) ?_
  refine ow_newa (N' := 540) (atype := .int) (ty := .int) (a0 := (540, .inl (fun _ => 0))) hx hb (ht _ k_793) rfl hK hP hD hS hA 0 rfl (fun _ => rfl) (by decide) (by decide +kernel) (by decide) (Nat.le_of_ble_eq_true rfl) (Nat.le_of_ble_eq_true rfl) dX5_init_17 (fun q_2 H hP hD hS => ?_)
  refine va_putF (ci := 5) (v := .ref q_2) (ty := .array (.int)) (C := RX5) (T := TX5) (N := 5) hx hb ht iX5 tyX5 tyX5_ok nmX5 hown hK hP hD hS 0 rfl rfl 1 (by decide) (ht _ k_354) (fun _ h9 => h9) rfl hin rfl (by decide +kernel) rfl rfl (Nat.le_of_ble_eq_true rfl) dX5_init_19 (fun H locs hP hD hS => ?_)
  have hP : va_P G vwCl [(h, .inr (5, [.ref q_1, .ref q_2, .int 0, .null, .int 0])), (q_1, .inl (cy 0, 540, .inl (fun _ => 0))), (q_2, .inl (cy 0, 540, .inl (fun _ => 0)))] H := hP
  have hD : va_D A [(h, .inr (5, [.ref q_1, .ref q_2, .int 0, .null, .int 0])), (q_1, .inl (cy 0, 540, .inl (fun _ => 0))), (q_2, .inl (cy 0, 540, .inl (fun _ => 0)))] := hD
  refine lv_aload_n hx hb dX5_init_22 rfl (lv_at hl 0 rfl) ?_
  refine lv_bipush (v := 61) hx hb dX5_init_23 (by decide) ?_
  refine ow_newa (N' := 61) (atype := .int) (ty := .int) (a0 := (61, .inl (fun _ => 0))) hx hb (ht _ k_793) rfl hK hP hD hS hA 0 rfl (fun _ => rfl) (by decide) (by decide +kernel) (by decide) (Nat.le_of_ble_eq_true rfl) (Nat.le_of_ble_eq_true rfl) dX5_init_25 (fun q_3 H hP hD hS => ?_)
  refine va_putF (ci := 5) (v := .ref q_3) (ty := .array (.int)) (C := RX5) (T := TX5) (N := 5) hx hb ht iX5 tyX5 tyX5_ok nmX5 hown hK hP hD hS 0 rfl rfl 3 (by decide) (ht _ k_355) (fun _ h9 => h9) rfl hin rfl (by decide +kernel) rfl rfl (Nat.le_of_ble_eq_true rfl) dX5_init_27 (fun H locs hP hD hS => ?_)
  have hP : va_P G vwCl [(h, .inr (5, [.ref q_1, .ref q_2, .int 0, .ref q_3, .int 0])), (q_1, .inl (cy 0, 540, .inl (fun _ => 0))), (q_2, .inl (cy 0, 540, .inl (fun _ => 0))), (q_3, .inl (cy 0, 61, .inl (fun _ => 0)))] H := hP
  have hD : va_D A [(h, .inr (5, [.ref q_1, .ref q_2, .int 0, .ref q_3, .int 0])), (q_1, .inl (cy 0, 540, .inl (fun _ => 0))), (q_2, .inl (cy 0, 540, .inl (fun _ => 0))), (q_3, .inl (cy 0, 61, .inl (fun _ => 0)))] := hD
  refine W.widen (k := 3) (n := 1141) (Nat.le_of_ble_eq_true rfl) (Nat.le_of_ble_eq_true rfl) ?_
  have hP9 : va_P G vwCl [(h, .inr (5, [.ref ((lst [q_1, q_2, q_3]) 0), .ref ((lst [q_1, q_2, q_3]) 1), .int 0, .ref ((lst [q_1, q_2, q_3]) 2), .int 0])), (((lst [q_1, q_2, q_3]) 0), .inl (cy 0, 540, .inl (fun _ => 0))), (((lst [q_1, q_2, q_3]) 1), .inl (cy 0, 540, .inl (fun _ => 0))), (((lst [q_1, q_2, q_3]) 2), .inl (cy 0, 61, .inl (fun _ => 0)))] _ := hP.sub [0, 1, 2, 3] rfl
  have hD9 : va_D A [(h, .inr (5, [.ref ((lst [q_1, q_2, q_3]) 0), .ref ((lst [q_1, q_2, q_3]) 1), .int 0, .ref ((lst [q_1, q_2, q_3]) 2), .int 0])), (((lst [q_1, q_2, q_3]) 0), .inl (cy 0, 540, .inl (fun _ => 0))), (((lst [q_1, q_2, q_3]) 1), .inl (cy 0, 540, .inl (fun _ => 0))), (((lst [q_1, q_2, q_3]) 2), .inl (cy 0, 61, .inl (fun _ => 0)))] := hD.sub [0, 1, 2, 3] (by decide) rfl
  exact W.vret hx hb hr (fun t ht9 hW => ⟨⟨(lst [q_1, q_2, q_3]), rfl, trivial, ⟨by rw [ht9]; exact hP9, hD9⟩⟩, hS.F ht9⟩) hS.2.2 dX5_init_30
set_option maxHeartbeats 4000000 in
set_option maxRecDepth 100000 in
theorem n_Watches (l : Launch) (G : va_G) (cy : Nat → ClassId) (sz : Nat) (h : Nat)  : Met l yX10_init (.code yX10_init cX10_init 1 none :: TBg) ({ frames := 1, cells := 5, slots := 150, locals := 64 }) (va_Pc [.ref h] (En G cy [(h, .inr (10, [.null, .null, .null, .null, .null, .int 0]))] sz)) (va_Qv (fun u : Nat → Nat => True) (fun u t => Ex G (va_A [(h, .inr (10, [.null, .null, .null, .null, .null, .int 0]))] sz) [(h, .inr (10, [.ref (u 0), .ref (u 1), .ref (u 2), .ref (u 3), .ref (u 4), .int 0])), ((u 0), .inl (cy 0, 30, .inl (fun _ => 0))), ((u 1), .inl (cy 2, 30, .inl (fun _ => 0))), ((u 2), .inl (cy 2, 30, .inl (fun _ => 0))), ((u 3), .inl (cy 0, 30, .inl (fun _ => 0))), ((u 4), .inl (cy 0, 30, .inl (fun _ => 0)))] t) (va_A [(h, .inr (10, [.null, .null, .null, .null, .null, .int 0]))] sz)) 5 150 (va_A [(h, .inr (10, [.null, .null, .null, .null, .null, .int 0]))] sz) := by
  refine Met.ofW (cc := cX10_init) (maxL := 1) (ret := none) (by decide) rfl ?_
  intro p e s m args below meth c s₁ B hml hv
  obtain ⟨rfl, hsz, hP, hK, hD0, hN⟩ := hv
  have hx := B.exec
  have hb := B.bytes
  have hr := B.returns
  have hts := atoms_spec (ws := .code yX10_init cX10_init 1 none :: TBg) B.pre
  have ht : ∀ w ∈ TBg, w.before _ s = true := fun w h => hts w (List.mem_cons_of_mem _ h)
  have hown : s.vm.findClass RX10 = some m.cls := findClass_of_methodNamed B.named
  have hlocks := B.notSynchronized
  have hin : meth.name = "<init>" := (name_of_methodNamed B.named B.method).1
  subst hsz
  have hD := hD0.self (sz := s.heap.size)
  generalize hAe : va_A [(h, .inr (10, [.null, .null, .null, .null, .null, .int 0]))] s.heap.size = A at hD ⊢
  have hA : ∀ q : Nat, s.heap.size ≤ q → A q := fun q h => by rw [← hAe]; exact Or.inr h
  have hS : va_S A s.heap s.heap [] := va_S.rf
  have hl := lv_entry ([.ref h]) (n := 1) (Nat.le_of_ble_eq_true rfl)
  rw [lg_entry_eq]
  generalize (lg_sl ([.ref h]) ++ List.replicate (1 - (lg_sl ([.ref h])).length) Slot.unset).toArray = ls at hl ⊢
  have hl : lv_has ls 1 [(0, .ref h)] := hl
  refine lv_aload_n hx hb dX10_init_0 rfl (lv_at hl 0 rfl) ?_
  refine W.objInit hx hb hown (ht _ k_801) (ht _ k_767) (ht _ k_768) rfl (by rw [hml]; exact hl.1) rfl dX10_init_1 (Nat.le_of_ble_eq_true rfl) (Nat.le_of_ble_eq_true rfl) ?_
  refine W.eq (g2 := F0 m 4 ls []) rfl ?_
  refine lv_aload_n hx hb dX10_init_4 rfl (lv_at hl 0 rfl) ?_
  refine lv_bipush (v := 30) hx hb dX10_init_5 (by decide) ?_
  refine ow_newa (N' := 30) (atype := .int) (ty := .int) (a0 := (30, .inl (fun _ => 0))) hx hb (ht _ k_793) rfl hK hP hD hS hA 0 rfl (fun _ => rfl) (by decide) (by decide +kernel) (by decide) (Nat.le_of_ble_eq_true rfl) (Nat.le_of_ble_eq_true rfl) dX10_init_7 (fun q_1 H hP hD hS => ?_)
  refine va_putF (ci := 10) (v := .ref q_1) (ty := .array (.int)) (C := RX10) (T := TX10) (N := 6) hx hb ht iX10 tyX10 tyX10_ok nmX10 hown hK hP hD hS 0 rfl rfl 0 (by decide) (ht _ k_386) (fun _ h9 => h9) rfl hin rfl (by decide +kernel) rfl rfl (Nat.le_of_ble_eq_true rfl) dX10_init_9 (fun H locs hP hD hS => ?_)
  have hP : va_P G vwCl [(h, .inr (10, [.ref q_1, .null, .null, .null, .null, .int 0])), (q_1, .inl (cy 0, 30, .inl (fun _ => 0)))] H := hP
  have hD : va_D A [(h, .inr (10, [.ref q_1, .null, .null, .null, .null, .int 0])), (q_1, .inl (cy 0, 30, .inl (fun _ => 0)))] := hD
  refine lv_aload_n hx hb dX10_init_12 rfl (lv_at hl 0 rfl) ?_
  refine lv_bipush (v := 30) hx hb dX10_init_13 (by decide) ?_
  refine ow_newa (N' := 30) (atype := .boolean) (ty := .boolean) (a0 := (30, .inl (fun _ => 0))) hx hb (ht _ k_794) rfl hK hP hD hS hA 2 rfl (fun _ => rfl) (by decide) (by decide +kernel) (by decide) (Nat.le_of_ble_eq_true rfl) (Nat.le_of_ble_eq_true rfl) dX10_init_15 (fun q_2 H hP hD hS => ?_)
  refine va_putF (ci := 10) (v := .ref q_2) (ty := .array (.boolean)) (C := RX10) (T := TX10) (N := 6) hx hb ht iX10 tyX10 tyX10_ok nmX10 hown hK hP hD hS 0 rfl rfl 1 (by decide) (ht _ k_387) (fun _ h9 => h9) rfl hin rfl (by decide +kernel) rfl rfl (Nat.le_of_ble_eq_true rfl) dX10_init_17 (fun H locs hP hD hS => ?_)
  have hP : va_P G vwCl [(h, .inr (10, [.ref q_1, .ref q_2, .null, .null, .null, .int 0])), (q_1, .inl (cy 0, 30, .inl (fun _ => 0))), (q_2, .inl (cy 2, 30, .inl (fun _ => 0)))] H := hP
  have hD : va_D A [(h, .inr (10, [.ref q_1, .ref q_2, .null, .null, .null, .int 0])), (q_1, .inl (cy 0, 30, .inl (fun _ => 0))), (q_2, .inl (cy 2, 30, .inl (fun _ => 0)))] := hD
  refine lv_aload_n hx hb dX10_init_20 rfl (lv_at hl 0 rfl) ?_
  refine lv_bipush (v := 30) hx hb dX10_init_21 (by decide) ?_
  refine ow_newa (N' := 30) (atype := .boolean) (ty := .boolean) (a0 := (30, .inl (fun _ => 0))) hx hb (ht _ k_794) rfl hK hP hD hS hA 2 rfl (fun _ => rfl) (by decide) (by decide +kernel) (by decide) (Nat.le_of_ble_eq_true rfl) (Nat.le_of_ble_eq_true rfl) dX10_init_23 (fun q_3 H hP hD hS => ?_)
  refine va_putF (ci := 10) (v := .ref q_3) (ty := .array (.boolean)) (C := RX10) (T := TX10) (N := 6) hx hb ht iX10 tyX10 tyX10_ok nmX10 hown hK hP hD hS 0 rfl rfl 2 (by decide) (ht _ k_388) (fun _ h9 => h9) rfl hin rfl (by decide +kernel) rfl rfl (Nat.le_of_ble_eq_true rfl) dX10_init_25 (fun H locs hP hD hS => ?_)
  have hP : va_P G vwCl [(h, .inr (10, [.ref q_1, .ref q_2, .ref q_3, .null, .null, .int 0])), (q_1, .inl (cy 0, 30, .inl (fun _ => 0))), (q_2, .inl (cy 2, 30, .inl (fun _ => 0))), (q_3, .inl (cy 2, 30, .inl (fun _ => 0)))] H := hP
  have hD : va_D A [(h, .inr (10, [.ref q_1, .ref q_2, .ref q_3, .null, .null, .int 0])), (q_1, .inl (cy 0, 30, .inl (fun _ => 0))), (q_2, .inl (cy 2, 30, .inl (fun _ => 0))), (q_3, .inl (cy 2, 30, .inl (fun _ => 0)))] := hD
  refine lv_aload_n hx hb dX10_init_28 rfl (lv_at hl 0 rfl) ?_
  refine lv_bipush (v := 30) hx hb dX10_init_29 (by decide) ?_
  refine ow_newa (N' := 30) (atype := .int) (ty := .int) (a0 := (30, .inl (fun _ => 0))) hx hb (ht _ k_793) rfl hK hP hD hS hA 0 rfl (fun _ => rfl) (by decide) (by decide +kernel) (by decide) (Nat.le_of_ble_eq_true rfl) (Nat.le_of_ble_eq_true rfl) dX10_init_31 (fun q_4 H hP hD hS => ?_)
  refine va_putF (ci := 10) (v := .ref q_4) (ty := .array (.int)) (C := RX10) (T := TX10) (N := 6) hx hb ht iX10 tyX10 tyX10_ok nmX10 hown hK hP hD hS 0 rfl rfl 3 (by decide) (ht _ k_389) (fun _ h9 => h9) rfl hin rfl (by decide +kernel) rfl rfl (Nat.le_of_ble_eq_true rfl) dX10_init_33 (fun H locs hP hD hS => ?_)
  have hP : va_P G vwCl [(h, .inr (10, [.ref q_1, .ref q_2, .ref q_3, .ref q_4, .null, .int 0])), (q_1, .inl (cy 0, 30, .inl (fun _ => 0))), (q_2, .inl (cy 2, 30, .inl (fun _ => 0))), (q_3, .inl (cy 2, 30, .inl (fun _ => 0))), (q_4, .inl (cy 0, 30, .inl (fun _ => 0)))] H := hP
  have hD : va_D A [(h, .inr (10, [.ref q_1, .ref q_2, .ref q_3, .ref q_4, .null, .int 0])), (q_1, .inl (cy 0, 30, .inl (fun _ => 0))), (q_2, .inl (cy 2, 30, .inl (fun _ => 0))), (q_3, .inl (cy 2, 30, .inl (fun _ => 0))), (q_4, .inl (cy 0, 30, .inl (fun _ => 0)))] := hD
  refine lv_aload_n hx hb dX10_init_36 rfl (lv_at hl 0 rfl) ?_
  refine lv_bipush (v := 30) hx hb dX10_init_37 (by decide) ?_
  refine ow_newa (N' := 30) (atype := .int) (ty := .int) (a0 := (30, .inl (fun _ => 0))) hx hb (ht _ k_793) rfl hK hP hD hS hA 0 rfl (fun _ => rfl) (by decide) (by decide +kernel) (by decide) (Nat.le_of_ble_eq_true rfl) (Nat.le_of_ble_eq_true rfl) dX10_init_39 (fun q_5 H hP hD hS => ?_)
  refine va_putF (ci := 10) (v := .ref q_5) (ty := .array (.int)) (C := RX10) (T := TX10) (N := 6) hx hb ht iX10 tyX10 tyX10_ok nmX10 hown hK hP hD hS 0 rfl rfl 4 (by decide) (ht _ k_390) (fun _ h9 => h9) rfl hin rfl (by decide +kernel) rfl rfl (Nat.le_of_ble_eq_true rfl) dX10_init_41 (fun H locs hP hD hS => ?_)
  have hP : va_P G vwCl [(h, .inr (10, [.ref q_1, .ref q_2, .ref q_3, .ref q_4, .ref q_5, .int 0])), (q_1, .inl (cy 0, 30, .inl (fun _ => 0))), (q_2, .inl (cy 2, 30, .inl (fun _ => 0))), (q_3, .inl (cy 2, 30, .inl (fun _ => 0))), (q_4, .inl (cy 0, 30, .inl (fun _ => 0))), (q_5, .inl (cy 0, 30, .inl (fun _ => 0)))] H := hP
  have hD : va_D A [(h, .inr (10, [.ref q_1, .ref q_2, .ref q_3, .ref q_4, .ref q_5, .int 0])), (q_1, .inl (cy 0, 30, .inl (fun _ => 0))), (q_2, .inl (cy 2, 30, .inl (fun _ => 0))), (q_3, .inl (cy 2, 30, .inl (fun _ => 0))), (q_4, .inl (cy 0, 30, .inl (fun _ => 0))), (q_5, .inl (cy 0, 30, .inl (fun _ => 0)))] := hD
  refine W.widen (k := 5) (n := 150) (Nat.le_of_ble_eq_true rfl) (Nat.le_of_ble_eq_true rfl) ?_
  have hP9 : va_P G vwCl [(h, .inr (10, [.ref ((lst [q_1, q_2, q_3, q_4, q_5]) 0), .ref ((lst [q_1, q_2, q_3, q_4, q_5]) 1), .ref ((lst [q_1, q_2, q_3, q_4, q_5]) 2), .ref ((lst [q_1, q_2, q_3, q_4, q_5]) 3), .ref ((lst [q_1, q_2, q_3, q_4, q_5]) 4), .int 0])), (((lst [q_1, q_2, q_3, q_4, q_5]) 0), .inl (cy 0, 30, .inl (fun _ => 0))), (((lst [q_1, q_2, q_3, q_4, q_5]) 1), .inl (cy 2, 30, .inl (fun _ => 0))), (((lst [q_1, q_2, q_3, q_4, q_5]) 2), .inl (cy 2, 30, .inl (fun _ => 0))), (((lst [q_1, q_2, q_3, q_4, q_5]) 3), .inl (cy 0, 30, .inl (fun _ => 0))), (((lst [q_1, q_2, q_3, q_4, q_5]) 4), .inl (cy 0, 30, .inl (fun _ => 0)))] _ := hP.sub [0, 1, 2, 3, 4, 5] rfl
  have hD9 : va_D A [(h, .inr (10, [.ref ((lst [q_1, q_2, q_3, q_4, q_5]) 0), .ref ((lst [q_1, q_2, q_3, q_4, q_5]) 1), .ref ((lst [q_1, q_2, q_3, q_4, q_5]) 2), .ref ((lst [q_1, q_2, q_3, q_4, q_5]) 3), .ref ((lst [q_1, q_2, q_3, q_4, q_5]) 4), .int 0])), (((lst [q_1, q_2, q_3, q_4, q_5]) 0), .inl (cy 0, 30, .inl (fun _ => 0))), (((lst [q_1, q_2, q_3, q_4, q_5]) 1), .inl (cy 2, 30, .inl (fun _ => 0))), (((lst [q_1, q_2, q_3, q_4, q_5]) 2), .inl (cy 2, 30, .inl (fun _ => 0))), (((lst [q_1, q_2, q_3, q_4, q_5]) 3), .inl (cy 0, 30, .inl (fun _ => 0))), (((lst [q_1, q_2, q_3, q_4, q_5]) 4), .inl (cy 0, 30, .inl (fun _ => 0)))] := hD.sub [0, 1, 2, 3, 4, 5] (by decide) rfl
  exact W.vret hx hb hr (fun t ht9 hW => ⟨⟨(lst [q_1, q_2, q_3, q_4, q_5]), rfl, trivial, ⟨by rw [ht9]; exact hP9, hD9⟩⟩, hS.F ht9⟩) hS.2.2 dX10_init_44
set_option maxHeartbeats 4000000 in
set_option maxRecDepth 100000 in
theorem n_Song12 (l : Launch) (G : va_G) (cy : Nat → ClassId) (sz : Nat) (h : Nat)  : Met l yX8_init (.code yX8_init cX8_init 2 none :: TBg) ({ frames := 1, cells := 2, slots := 24, locals := 64 }) (va_Pc [.ref h, .int 12] (En G cy [(h, .inr (8, [.null, .null, .int 0]))] sz)) (va_Qv (fun u : Nat → Nat => True) (fun u t => Ex G (va_A [(h, .inr (8, [.null, .null, .int 0]))] sz) [(h, .inr (8, [.ref (u 0), .ref (u 1), .int 0])), ((u 0), .inl (cy 0, 12, .inl (fun _ => 0))), ((u 1), .inl (cy 0, 12, .inl (fun _ => 0)))] t) (va_A [(h, .inr (8, [.null, .null, .int 0]))] sz)) 2 24 (va_A [(h, .inr (8, [.null, .null, .int 0]))] sz) := by
  refine Met.ofW (cc := cX8_init) (maxL := 2) (ret := none) (by decide) rfl ?_
  intro p e s m args below meth c s₁ B hml hv
  obtain ⟨rfl, hsz, hP, hK, hD0, hN⟩ := hv
  have hx := B.exec
  have hb := B.bytes
  have hr := B.returns
  have hts := atoms_spec (ws := .code yX8_init cX8_init 2 none :: TBg) B.pre
  have ht : ∀ w ∈ TBg, w.before _ s = true := fun w h => hts w (List.mem_cons_of_mem _ h)
  have hown : s.vm.findClass RX8 = some m.cls := findClass_of_methodNamed B.named
  have hlocks := B.notSynchronized
  have hin : meth.name = "<init>" := (name_of_methodNamed B.named B.method).1
  subst hsz
  have hD := hD0.self (sz := s.heap.size)
  generalize hAe : va_A [(h, .inr (8, [.null, .null, .int 0]))] s.heap.size = A at hD ⊢
  have hA : ∀ q : Nat, s.heap.size ≤ q → A q := fun q h => by rw [← hAe]; exact Or.inr h
  have hS : va_S A s.heap s.heap [] := va_S.rf
  have hl := lv_entry ([.ref h, .int 12]) (n := 2) (Nat.le_of_ble_eq_true rfl)
  rw [lg_entry_eq]
  generalize (lg_sl ([.ref h, .int 12]) ++ List.replicate (2 - (lg_sl ([.ref h, .int 12])).length) Slot.unset).toArray = ls at hl ⊢
  have hl : lv_has ls 2 [(0, .ref h), (1, .int 12)] := hl
  refine lv_aload_n hx hb dX8_init_0 rfl (lv_at hl 0 rfl) ?_
  refine W.objInit hx hb hown (ht _ k_802) (ht _ k_767) (ht _ k_768) rfl (by rw [hml]; exact hl.1) rfl dX8_init_1 (Nat.le_of_ble_eq_true rfl) (Nat.le_of_ble_eq_true rfl) ?_
  refine W.eq (g2 := F0 m 4 ls []) rfl ?_
  refine lv_aload_n hx hb dX8_init_4 rfl (lv_at hl 0 rfl) ?_
  refine lv_iload_n hx hb dX8_init_5 rfl (lv_at hl 1 rfl) ?_
  refine lv_iconst (v := 0) hx hb dX8_init_6 (by decide) ?_
  refine va_mmax hx hb (by rw [hml]; exact hl.1.symm) hown (ht _ k_803) (ht _ k_590) (ht _ k_402) (ht _ k_591) (Nat.le_of_ble_eq_true rfl) (Nat.le_of_ble_eq_true rfl) (Nat.le_of_ble_eq_true rfl) (Nat.le_of_ble_eq_true rfl) dX8_init_7 ?_
  refine ow_top 12 (by decide +kernel) ?_
  refine ow_newa (N' := 12) (atype := .int) (ty := .int) (a0 := (12, .inl (fun _ => 0))) hx hb (ht _ k_793) rfl hK hP hD hS hA 0 rfl (fun _ => rfl) (by decide) (by decide +kernel) (by decide) (Nat.le_of_ble_eq_true rfl) (Nat.le_of_ble_eq_true rfl) dX8_init_10 (fun q_1 H hP hD hS => ?_)
  refine va_putF (ci := 8) (v := .ref q_1) (ty := .array (.int)) (C := RX8) (T := TX8) (N := 3) hx hb ht iX8 tyX8 tyX8_ok nmX8 hown hK hP hD hS 0 rfl rfl 0 (by decide) (ht _ k_374) (fun _ h9 => h9) rfl hin rfl (by decide +kernel) rfl rfl (Nat.le_of_ble_eq_true rfl) dX8_init_12 (fun H locs hP hD hS => ?_)
  have hP : va_P G vwCl [(h, .inr (8, [.ref q_1, .null, .int 0])), (q_1, .inl (cy 0, 12, .inl (fun _ => 0)))] H := hP
  have hD : va_D A [(h, .inr (8, [.ref q_1, .null, .int 0])), (q_1, .inl (cy 0, 12, .inl (fun _ => 0)))] := hD
  refine lv_aload_n hx hb dX8_init_15 rfl (lv_at hl 0 rfl) ?_
  refine lv_iload_n hx hb dX8_init_16 rfl (lv_at hl 1 rfl) ?_
  refine lv_iconst (v := 0) hx hb dX8_init_17 (by decide) ?_
  refine va_mmax hx hb (by rw [hml]; exact hl.1.symm) hown (ht _ k_803) (ht _ k_590) (ht _ k_402) (ht _ k_591) (Nat.le_of_ble_eq_true rfl) (Nat.le_of_ble_eq_true rfl) (Nat.le_of_ble_eq_true rfl) (Nat.le_of_ble_eq_true rfl) dX8_init_18 ?_
  refine ow_top 12 (by decide +kernel) ?_
  refine ow_newa (N' := 12) (atype := .int) (ty := .int) (a0 := (12, .inl (fun _ => 0))) hx hb (ht _ k_793) rfl hK hP hD hS hA 0 rfl (fun _ => rfl) (by decide) (by decide +kernel) (by decide) (Nat.le_of_ble_eq_true rfl) (Nat.le_of_ble_eq_true rfl) dX8_init_21 (fun q_2 H hP hD hS => ?_)
  refine va_putF (ci := 8) (v := .ref q_2) (ty := .array (.int)) (C := RX8) (T := TX8) (N := 3) hx hb ht iX8 tyX8 tyX8_ok nmX8 hown hK hP hD hS 0 rfl rfl 1 (by decide) (ht _ k_375) (fun _ h9 => h9) rfl hin rfl (by decide +kernel) rfl rfl (Nat.le_of_ble_eq_true rfl) dX8_init_23 (fun H locs hP hD hS => ?_)
  have hP : va_P G vwCl [(h, .inr (8, [.ref q_1, .ref q_2, .int 0])), (q_1, .inl (cy 0, 12, .inl (fun _ => 0))), (q_2, .inl (cy 0, 12, .inl (fun _ => 0)))] H := hP
  have hD : va_D A [(h, .inr (8, [.ref q_1, .ref q_2, .int 0])), (q_1, .inl (cy 0, 12, .inl (fun _ => 0))), (q_2, .inl (cy 0, 12, .inl (fun _ => 0)))] := hD
  refine W.widen (k := 2) (n := 24) (Nat.le_of_ble_eq_true rfl) (Nat.le_of_ble_eq_true rfl) ?_
  have hP9 : va_P G vwCl [(h, .inr (8, [.ref ((lst [q_1, q_2]) 0), .ref ((lst [q_1, q_2]) 1), .int 0])), (((lst [q_1, q_2]) 0), .inl (cy 0, 12, .inl (fun _ => 0))), (((lst [q_1, q_2]) 1), .inl (cy 0, 12, .inl (fun _ => 0)))] _ := hP.sub [0, 1, 2] rfl
  have hD9 : va_D A [(h, .inr (8, [.ref ((lst [q_1, q_2]) 0), .ref ((lst [q_1, q_2]) 1), .int 0])), (((lst [q_1, q_2]) 0), .inl (cy 0, 12, .inl (fun _ => 0))), (((lst [q_1, q_2]) 1), .inl (cy 0, 12, .inl (fun _ => 0)))] := hD.sub [0, 1, 2] (by decide) rfl
  exact W.vret hx hb hr (fun t ht9 hW => ⟨⟨(lst [q_1, q_2]), rfl, trivial, ⟨by rw [ht9]; exact hP9, hD9⟩⟩, hS.F ht9⟩) hS.2.2 dX8_init_26
set_option maxHeartbeats 4000000 in
set_option maxRecDepth 100000 in
theorem n_Song40 (l : Launch) (G : va_G) (cy : Nat → ClassId) (sz : Nat) (h : Nat)  : Met l yX8_init (.code yX8_init cX8_init 2 none :: TBg) ({ frames := 1, cells := 2, slots := 80, locals := 64 }) (va_Pc [.ref h, .int 40] (En G cy [(h, .inr (8, [.null, .null, .int 0]))] sz)) (va_Qv (fun u : Nat → Nat => True) (fun u t => Ex G (va_A [(h, .inr (8, [.null, .null, .int 0]))] sz) [(h, .inr (8, [.ref (u 0), .ref (u 1), .int 0])), ((u 0), .inl (cy 0, 40, .inl (fun _ => 0))), ((u 1), .inl (cy 0, 40, .inl (fun _ => 0)))] t) (va_A [(h, .inr (8, [.null, .null, .int 0]))] sz)) 2 80 (va_A [(h, .inr (8, [.null, .null, .int 0]))] sz) := by
  refine Met.ofW (cc := cX8_init) (maxL := 2) (ret := none) (by decide) rfl ?_
  intro p e s m args below meth c s₁ B hml hv
  obtain ⟨rfl, hsz, hP, hK, hD0, hN⟩ := hv
  have hx := B.exec
  have hb := B.bytes
  have hr := B.returns
  have hts := atoms_spec (ws := .code yX8_init cX8_init 2 none :: TBg) B.pre
  have ht : ∀ w ∈ TBg, w.before _ s = true := fun w h => hts w (List.mem_cons_of_mem _ h)
  have hown : s.vm.findClass RX8 = some m.cls := findClass_of_methodNamed B.named
  have hlocks := B.notSynchronized
  have hin : meth.name = "<init>" := (name_of_methodNamed B.named B.method).1
  subst hsz
  have hD := hD0.self (sz := s.heap.size)
  generalize hAe : va_A [(h, .inr (8, [.null, .null, .int 0]))] s.heap.size = A at hD ⊢
  have hA : ∀ q : Nat, s.heap.size ≤ q → A q := fun q h => by rw [← hAe]; exact Or.inr h
  have hS : va_S A s.heap s.heap [] := va_S.rf
  have hl := lv_entry ([.ref h, .int 40]) (n := 2) (Nat.le_of_ble_eq_true rfl)
  rw [lg_entry_eq]
  generalize (lg_sl ([.ref h, .int 40]) ++ List.replicate (2 - (lg_sl ([.ref h, .int 40])).length) Slot.unset).toArray = ls at hl ⊢
  have hl : lv_has ls 2 [(0, .ref h), (1, .int 40)] := hl
  refine lv_aload_n hx hb dX8_init_0 rfl (lv_at hl 0 rfl) ?_
  refine W.objInit hx hb hown (ht _ k_802) (ht _ k_767) (ht _ k_768) rfl (by rw [hml]; exact hl.1) rfl dX8_init_1 (Nat.le_of_ble_eq_true rfl) (Nat.le_of_ble_eq_true rfl) ?_
  refine W.eq (g2 := F0 m 4 ls []) rfl ?_
  refine lv_aload_n hx hb dX8_init_4 rfl (lv_at hl 0 rfl) ?_
  refine lv_iload_n hx hb dX8_init_5 rfl (lv_at hl 1 rfl) ?_
  refine lv_iconst (v := 0) hx hb dX8_init_6 (by decide) ?_
  refine va_mmax hx hb (by rw [hml]; exact hl.1.symm) hown (ht _ k_803) (ht _ k_590) (ht _ k_402) (ht _ k_591) (Nat.le_of_ble_eq_true rfl) (Nat.le_of_ble_eq_true rfl) (Nat.le_of_ble_eq_true rfl) (Nat.le_of_ble_eq_true rfl) dX8_init_7 ?_
  refine ow_top 40 (by decide +kernel) ?_
  refine ow_newa (N' := 40) (atype := .int) (ty := .int) (a0 := (40, .inl (fun _ => 0))) hx hb (ht _ k_793) rfl hK hP hD hS hA 0 rfl (fun _ => rfl) (by decide) (by decide +kernel) (by decide) (Nat.le_of_ble_eq_true rfl) (Nat.le_of_ble_eq_true rfl) dX8_init_10 (fun q_1 H hP hD hS => ?_)
  refine va_putF (ci := 8) (v := .ref q_1) (ty := .array (.int)) (C := RX8) (T := TX8) (N := 3) hx hb ht iX8 tyX8 tyX8_ok nmX8 hown hK hP hD hS 0 rfl rfl 0 (by decide) (ht _ k_374) (fun _ h9 => h9) rfl hin rfl (by decide +kernel) rfl rfl (Nat.le_of_ble_eq_true rfl) dX8_init_12 (fun H locs hP hD hS => ?_)
  have hP : va_P G vwCl [(h, .inr (8, [.ref q_1, .null, .int 0])), (q_1, .inl (cy 0, 40, .inl (fun _ => 0)))] H := hP
  have hD : va_D A [(h, .inr (8, [.ref q_1, .null, .int 0])), (q_1, .inl (cy 0, 40, .inl (fun _ => 0)))] := hD
  refine lv_aload_n hx hb dX8_init_15 rfl (lv_at hl 0 rfl) ?_
  refine lv_iload_n hx hb dX8_init_16 rfl (lv_at hl 1 rfl) ?_
  refine lv_iconst (v := 0) hx hb dX8_init_17 (by decide) ?_
  refine va_mmax hx hb (by rw [hml]; exact hl.1.symm) hown (ht _ k_803) (ht _ k_590) (ht _ k_402) (ht _ k_591) (Nat.le_of_ble_eq_true rfl) (Nat.le_of_ble_eq_true rfl) (Nat.le_of_ble_eq_true rfl) (Nat.le_of_ble_eq_true rfl) dX8_init_18 ?_
  refine ow_top 40 (by decide +kernel) ?_
  refine ow_newa (N' := 40) (atype := .int) (ty := .int) (a0 := (40, .inl (fun _ => 0))) hx hb (ht _ k_793) rfl hK hP hD hS hA 0 rfl (fun _ => rfl) (by decide) (by decide +kernel) (by decide) (Nat.le_of_ble_eq_true rfl) (Nat.le_of_ble_eq_true rfl) dX8_init_21 (fun q_2 H hP hD hS => ?_)
  refine va_putF (ci := 8) (v := .ref q_2) (ty := .array (.int)) (C := RX8) (T := TX8) (N := 3) hx hb ht iX8 tyX8 tyX8_ok nmX8 hown hK hP hD hS 0 rfl rfl 1 (by decide) (ht _ k_375) (fun _ h9 => h9) rfl hin rfl (by decide +kernel) rfl rfl (Nat.le_of_ble_eq_true rfl) dX8_init_23 (fun H locs hP hD hS => ?_)
  have hP : va_P G vwCl [(h, .inr (8, [.ref q_1, .ref q_2, .int 0])), (q_1, .inl (cy 0, 40, .inl (fun _ => 0))), (q_2, .inl (cy 0, 40, .inl (fun _ => 0)))] H := hP
  have hD : va_D A [(h, .inr (8, [.ref q_1, .ref q_2, .int 0])), (q_1, .inl (cy 0, 40, .inl (fun _ => 0))), (q_2, .inl (cy 0, 40, .inl (fun _ => 0)))] := hD
  refine W.widen (k := 2) (n := 80) (Nat.le_of_ble_eq_true rfl) (Nat.le_of_ble_eq_true rfl) ?_
  have hP9 : va_P G vwCl [(h, .inr (8, [.ref ((lst [q_1, q_2]) 0), .ref ((lst [q_1, q_2]) 1), .int 0])), (((lst [q_1, q_2]) 0), .inl (cy 0, 40, .inl (fun _ => 0))), (((lst [q_1, q_2]) 1), .inl (cy 0, 40, .inl (fun _ => 0)))] _ := hP.sub [0, 1, 2] rfl
  have hD9 : va_D A [(h, .inr (8, [.ref ((lst [q_1, q_2]) 0), .ref ((lst [q_1, q_2]) 1), .int 0])), (((lst [q_1, q_2]) 0), .inl (cy 0, 40, .inl (fun _ => 0))), (((lst [q_1, q_2]) 1), .inl (cy 0, 40, .inl (fun _ => 0)))] := hD.sub [0, 1, 2] (by decide) rfl
  exact W.vret hx hb hr (fun t ht9 hW => ⟨⟨(lst [q_1, q_2]), rfl, trivial, ⟨by rw [ht9]; exact hP9, hD9⟩⟩, hS.F ht9⟩) hS.2.2 dX8_init_26
set_option maxHeartbeats 4000000 in
set_option maxRecDepth 100000 in
theorem n_Scene (l : Launch) (G : va_G) (cy : Nat → ClassId) (sz : Nat) (h : Nat)  : Met l yX7_init (.code yX7_init cX7_init 1 none :: TBg) ({ frames := 2, cells := 4, slots := 91, locals := 128 }) (va_Pc [.ref h] (En G cy [(h, .inr (7, [.null, .int 0, .int 0, .null, .int 0]))] sz)) (va_Qv (fun u : Nat → Nat => True) (fun u t => Ex G (va_A [(h, .inr (7, [.null, .int 0, .int 0, .null, .int 0]))] sz) [(h, .inr (7, [.ref (u 0), .int 0, .int 0, .ref (u 1), .int 0])), ((u 0), .inr (8, [.ref (u 2), .ref (u 3), .int 0])), ((u 2), .inl (cy 0, 40, .inl (fun _ => 0))), ((u 3), .inl (cy 0, 40, .inl (fun _ => 0))), ((u 1), .inl (cy 0, 8, .inl (fun _ => 0)))] t) (va_A [(h, .inr (7, [.null, .int 0, .int 0, .null, .int 0]))] sz)) 4 91 (va_A [(h, .inr (7, [.null, .int 0, .int 0, .null, .int 0]))] sz) := by
  refine Met.ofW (cc := cX7_init) (maxL := 1) (ret := none) (by decide) rfl ?_
  intro p e s m args below meth c s₁ B hml hv
  obtain ⟨rfl, hsz, hP, hK, hD0, hN⟩ := hv
  have hx := B.exec
  have hb := B.bytes
  have hr := B.returns
  have hts := atoms_spec (ws := .code yX7_init cX7_init 1 none :: TBg) B.pre
  have ht : ∀ w ∈ TBg, w.before _ s = true := fun w h => hts w (List.mem_cons_of_mem _ h)
  have hown : s.vm.findClass RX7 = some m.cls := findClass_of_methodNamed B.named
  have hlocks := B.notSynchronized
  have hin : meth.name = "<init>" := (name_of_methodNamed B.named B.method).1
  subst hsz
  have hD := hD0.self (sz := s.heap.size)
  generalize hAe : va_A [(h, .inr (7, [.null, .int 0, .int 0, .null, .int 0]))] s.heap.size = A at hD ⊢
  have hA : ∀ q : Nat, s.heap.size ≤ q → A q := fun q h => by rw [← hAe]; exact Or.inr h
  have hS : va_S A s.heap s.heap [] := va_S.rf
  have hl := lv_entry ([.ref h]) (n := 1) (Nat.le_of_ble_eq_true rfl)
  rw [lg_entry_eq]
  generalize (lg_sl ([.ref h]) ++ List.replicate (1 - (lg_sl ([.ref h])).length) Slot.unset).toArray = ls at hl ⊢
  have hl : lv_has ls 1 [(0, .ref h)] := hl
  refine lv_aload_n hx hb dX7_init_0 rfl (lv_at hl 0 rfl) ?_
  refine W.objInit hx hb hown (ht _ k_804) (ht _ k_767) (ht _ k_768) rfl (by rw [hml]; exact hl.1) rfl dX7_init_1 (Nat.le_of_ble_eq_true rfl) (Nat.le_of_ble_eq_true rfl) ?_
  refine W.eq (g2 := F0 m 4 ls []) rfl ?_
  refine lv_aload_n hx hb dX7_init_4 rfl (lv_at hl 0 rfl) ?_
  refine va_new (ci := 8) (fs := [.null, .null, .int 0]) (C := RX8) (T := TX8) (N := 3) hx hb ht iX8 tyX8 tyX8_ok hown (ht _ k_805) (ht _ k_806) (ht _ k_399) hK hP hD hS hA rfl df8 (Nat.le_of_ble_eq_true rfl) (Nat.le_of_ble_eq_true rfl) dX7_init_5 (fun q_1 H hP hD hS => ?_)
  refine lv_dup hx hb dX7_init_8 rfl ?_
  refine lv_bipush (v := 40) hx hb dX7_init_9 (by decide) ?_
  have hFc := fr_lastF hD hS hA
  have hPc := fr_lastP hP
  refine va_callv (va_runI (As := [.int 40]) (rest := [.ref q_1, .ref h]) ⟨hx, hb, hml, hown, ht⟩ (n_Song40 l G cy _ q_1 ) (cwI 1 ht (gc k_807) rfl rfl rfl (ht _ k_399) (ht _ k_808) (ht _ k_809) rfl (by decide +kernel) ⟨Nat.le_of_ble_eq_true rfl, Nat.le_of_ble_eq_true rfl⟩) ⟨En.blind, fun U hU hW => ⟨rfl, En.of hU hW hPc hK (fr_lastD (ws := [])) hN⟩⟩ rfl rfl hl.1 rfl (lv_room (Nat.le_of_ble_eq_true rfl)) dX7_init_11 ⟨Nat.le_of_ble_eq_true rfl, Nat.le_of_ble_eq_true rfl⟩) hS (fun q _ h => hFc q h) hFc (fun u_2 t H locs ht9 hvm hw hB hz1 hk1 hS => ?_)
  obtain ⟨hP1, hD1⟩ := hB
  rw [ht9] at hP1
  obtain ⟨hP, hD⟩ := fr_last hP hD hFc hk1 hP1 hD1
  clear hFc hPc hP1 hD1 hz1 hk1
  have hP : va_P G vwCl [(h, .inr (7, [.null, .int 0, .int 0, .null, .int 0])), (q_1, .inr (8, [.ref (u_2 0), .ref (u_2 1), .int 0])), ((u_2 0), .inl (cy 0, 40, .inl (fun _ => 0))), ((u_2 1), .inl (cy 0, 40, .inl (fun _ => 0)))] H := hP
  have hD : va_D A [(h, .inr (7, [.null, .int 0, .int 0, .null, .int 0])), (q_1, .inr (8, [.ref (u_2 0), .ref (u_2 1), .int 0])), ((u_2 0), .inl (cy 0, 40, .inl (fun _ => 0))), ((u_2 1), .inl (cy 0, 40, .inl (fun _ => 0)))] := hD
  refine va_putF (ci := 7) (v := .ref q_1) (ty := .object "TuneLocks$Song") (C := RX7) (T := TX7) (N := 5) hx hb ht iX7 tyX7 tyX7_ok nmX7 hown hK hP hD hS 0 rfl rfl 0 (by decide) (ht _ k_369) (fun _ h9 => h9) rfl hin rfl (by decide +kernel) rfl rfl (Nat.le_of_ble_eq_true rfl) dX7_init_14 (fun H locs hP hD hS => ?_)
  have hP : va_P G vwCl [(h, .inr (7, [.ref q_1, .int 0, .int 0, .null, .int 0])), (q_1, .inr (8, [.ref (u_2 0), .ref (u_2 1), .int 0])), ((u_2 0), .inl (cy 0, 40, .inl (fun _ => 0))), ((u_2 1), .inl (cy 0, 40, .inl (fun _ => 0)))] H := hP
  have hD : va_D A [(h, .inr (7, [.ref q_1, .int 0, .int 0, .null, .int 0])), (q_1, .inr (8, [.ref (u_2 0), .ref (u_2 1), .int 0])), ((u_2 0), .inl (cy 0, 40, .inl (fun _ => 0))), ((u_2 1), .inl (cy 0, 40, .inl (fun _ => 0)))] := hD
  refine lv_aload_n hx hb dX7_init_17 rfl (lv_at hl 0 rfl) ?_
  refine lv_bipush (v := 8) hx hb dX7_init_18 (by decide) ?_
  refine ow_newa (N' := 8) (atype := .int) (ty := .int) (a0 := (8, .inl (fun _ => 0))) hx hb (ht _ k_793) rfl hK hP hD hS hA 0 rfl (fun _ => rfl) (by decide) (by decide +kernel) (by decide) (Nat.le_of_ble_eq_true rfl) (Nat.le_of_ble_eq_true rfl) dX7_init_20 (fun q_3 H hP hD hS => ?_)
  refine va_putF (ci := 7) (v := .ref q_3) (ty := .array (.int)) (C := RX7) (T := TX7) (N := 5) hx hb ht iX7 tyX7 tyX7_ok nmX7 hown hK hP hD hS 0 rfl rfl 3 (by decide) (ht _ k_370) (fun _ h9 => h9) rfl hin rfl (by decide +kernel) rfl rfl (Nat.le_of_ble_eq_true rfl) dX7_init_22 (fun H locs hP hD hS => ?_)
  have hP : va_P G vwCl [(h, .inr (7, [.ref q_1, .int 0, .int 0, .ref q_3, .int 0])), (q_1, .inr (8, [.ref (u_2 0), .ref (u_2 1), .int 0])), ((u_2 0), .inl (cy 0, 40, .inl (fun _ => 0))), ((u_2 1), .inl (cy 0, 40, .inl (fun _ => 0))), (q_3, .inl (cy 0, 8, .inl (fun _ => 0)))] H := hP
  have hD : va_D A [(h, .inr (7, [.ref q_1, .int 0, .int 0, .ref q_3, .int 0])), (q_1, .inr (8, [.ref (u_2 0), .ref (u_2 1), .int 0])), ((u_2 0), .inl (cy 0, 40, .inl (fun _ => 0))), ((u_2 1), .inl (cy 0, 40, .inl (fun _ => 0))), (q_3, .inl (cy 0, 8, .inl (fun _ => 0)))] := hD
  refine W.widen (k := 4) (n := 91) (Nat.le_of_ble_eq_true rfl) (Nat.le_of_ble_eq_true rfl) ?_
  have hP9 : va_P G vwCl [(h, .inr (7, [.ref ((lst [q_1, q_3, (u_2 0), (u_2 1)]) 0), .int 0, .int 0, .ref ((lst [q_1, q_3, (u_2 0), (u_2 1)]) 1), .int 0])), (((lst [q_1, q_3, (u_2 0), (u_2 1)]) 0), .inr (8, [.ref ((lst [q_1, q_3, (u_2 0), (u_2 1)]) 2), .ref ((lst [q_1, q_3, (u_2 0), (u_2 1)]) 3), .int 0])), (((lst [q_1, q_3, (u_2 0), (u_2 1)]) 2), .inl (cy 0, 40, .inl (fun _ => 0))), (((lst [q_1, q_3, (u_2 0), (u_2 1)]) 3), .inl (cy 0, 40, .inl (fun _ => 0))), (((lst [q_1, q_3, (u_2 0), (u_2 1)]) 1), .inl (cy 0, 8, .inl (fun _ => 0)))] _ := hP.sub [0, 1, 2, 3, 4] rfl
  have hD9 : va_D A [(h, .inr (7, [.ref ((lst [q_1, q_3, (u_2 0), (u_2 1)]) 0), .int 0, .int 0, .ref ((lst [q_1, q_3, (u_2 0), (u_2 1)]) 1), .int 0])), (((lst [q_1, q_3, (u_2 0), (u_2 1)]) 0), .inr (8, [.ref ((lst [q_1, q_3, (u_2 0), (u_2 1)]) 2), .ref ((lst [q_1, q_3, (u_2 0), (u_2 1)]) 3), .int 0])), (((lst [q_1, q_3, (u_2 0), (u_2 1)]) 2), .inl (cy 0, 40, .inl (fun _ => 0))), (((lst [q_1, q_3, (u_2 0), (u_2 1)]) 3), .inl (cy 0, 40, .inl (fun _ => 0))), (((lst [q_1, q_3, (u_2 0), (u_2 1)]) 1), .inl (cy 0, 8, .inl (fun _ => 0)))] := hD.sub [0, 1, 2, 3, 4] (by decide) rfl
  exact W.vret hx hb hr (fun t ht9 hW => ⟨⟨(lst [q_1, q_3, (u_2 0), (u_2 1)]), rfl, trivial, ⟨by rw [ht9]; exact hP9, hD9⟩⟩, hS.F ht9⟩) hS.2.2 dX7_init_25
theorem outer6 (cA : ClassId) (h : Nat) : Jvm.Free.Multi.outerC cA 6 h 6 = vp_cell cA (6, .inr (.inr (.inr (.inr (fun j => some (h + 1 + j)))))) := by
  rfl
theorem inner6 (cA : ClassId) : Jvm.Free.Multi.innerC cA 6 (defaultValue .int) = vp_cell cA (6, .inl (fun _ => 0)) := by
  rfl
section MNA
variable {p : Program} {l : Launch} {e : Env} {R : Room} {s : State} {m : MethodId} {args : Array Value} {below : List Frame} {meth : Method} {c : Code} {H : Heap} {locs : List Loc} {cells slots : Nat} {Q : State → Prop}
variable {cc : ByteArray} {pc : Nat} {ls : Array Slot} {rest : List Value} {D : va_G} {cl : List vw_C} {A : Nat → Prop} {cy : Nat → ClassId} {ws : va_W} {H0 : Heap}
theorem va_Papp9 {w1 w2 : va_W} (h1 : va_P D cl w1 H) (h2 : va_P D cl w2 H) : va_P D cl (w1 ++ w2) H := fun k q hq => by
  rcases Nat.lt_or_ge k w1.length with hk | hk
  · rw [List.getElem?_append_left hk] at hq
    exact h1 k q hq
  · rw [List.getElem?_append_right hk] at hq
    exact h2 _ q hq
theorem va_Pmem9 {w : va_W} (h : ∀ q ∈ w, va_at D cl q H) : va_P D cl w H := fun k q hq => h q (List.mem_of_getElem? hq)
theorem ow_mna2 (hexec : p.tables.exec = Jvm.exec) (hb : c.code = cc) {own : String} {index : Nat} (hown : s.vm.findClass own = some m.cls) (hclink : (Cond.classLink own index ("[" ++ (FieldType.array .int).toString)).before args s = true) (hover : (Cond.arrayOver (.array .int)).before args s = true) (harr : (Cond.arrayClass .int).before args s = true)
    (hK : va_K D cl (TY cy) s) (h8 : s.vm.findClass ("[" ++ (FieldType.array .int).toString) = some (cy 8)) (hP : va_P D cl ws H) (hD : va_D A ws) (hS : va_S A H0 H locs) (hA : ∀ q, H0.size ≤ q → A q) (hcells : cells + 7 ≤ R.cells) (hslots : slots + 42 ≤ R.slots) (hdg : decode cc pc = .ok (.multianewarray index 2, 4))
    (kk : ∀ (q : Nat) (H1 : Heap), va_P D cl (ws ++ [(q, .inl (cy 8, 6, .inr (.inr (.inr (.inr (fun j => some (q + 1 + j))))))), (q + 1, .inl (cy 0, 6, .inl (fun _ => 0))), (q + 1 + 1, .inl (cy 0, 6, .inl (fun _ => 0))), (q + 1 + 2, .inl (cy 0, 6, .inl (fun _ => 0))), (q + 1 + 3, .inl (cy 0, 6, .inl (fun _ => 0))), (q + 1 + 4, .inl (cy 0, 6, .inl (fun _ => 0))), (q + 1 + 5, .inl (cy 0, 6, .inl (fun _ => 0)))]) H1 → va_D A (ws ++ [(q, .inl (cy 8, 6, .inr (.inr (.inr (.inr (fun j => some (q + 1 + j))))))), (q + 1, .inl (cy 0, 6, .inl (fun _ => 0))), (q + 1 + 1, .inl (cy 0, 6, .inl (fun _ => 0))), (q + 1 + 2, .inl (cy 0, 6, .inl (fun _ => 0))), (q + 1 + 3, .inl (cy 0, 6, .inl (fun _ => 0))), (q + 1 + 4, .inl (cy 0, 6, .inl (fun _ => 0))), (q + 1 + 5, .inl (cy 0, 6, .inl (fun _ => 0)))]) → va_S A H0 H1 locs → W p l e R s m args below meth c H1 locs (cells + 7) (slots + 42) Q (F0 m (pc + 4) ls (.ref q :: rest))) : W p l e R s m args below meth c H locs cells slots Q (F0 m pc ls (.int 6 :: .int 6 :: rest)) := by
  intro T hT Xs
  obtain ⟨vm₁, cA, comp, -, fA, fC, hO, -, X', step⟩ := Jvm.Stand.multianewarray2F Xs hexec hown hclink hover harr (g := F0 m pc ls (.int 6 :: .int 6 :: rest)) rfl (by rw [hb]; exact hdg) rfl (n := 6) (k := 6) (by decide) (by decide) (by decide) (by decide) (by decide) (by decide) (by decide) hcells hslots
  obtain rfl : cA = cy 8 := Option.some.inj (fA.symm.trans h8)
  have hc0 : s.vm.findClass ("[" ++ FieldType.int.toString) = some (cy 0) := (hK.2 0 _ rfl).2
  obtain rfl : comp = cy 0 := Option.some.inj (fC.symm.trans hc0)
  generalize hF : Jvm.Free.Multi.fill (T.setVm vm₁) (cy 8) (cy 0) (6 : Int32).toNatClampNeg (6 : Int32).toNatClampNeg (defaultValue .int) (6 : Int32).toNatClampNeg = F at X' step
  have hTh : (T.setVm vm₁).heap = H := hT
  obtain ⟨f1, f2, -, -⟩ := Jvm.Free.Multi.fill_facts (T.setVm vm₁) (cy 8) (cy 0) (6 : Int32).toNatClampNeg (6 : Int32).toNatClampNeg (defaultValue .int) (6 : Int32).toNatClampNeg
  have fi := Jvm.Free.Multi.fill_inner (T.setVm vm₁) (cy 8) (cy 0) (6 : Int32).toNatClampNeg (6 : Int32).toNatClampNeg (defaultValue .int) (6 : Int32).toNatClampNeg
  rw [hF, hTh] at f1 f2 fi
  have hold : ∀ x : Nat, x < H.size → F.heap[x]? = H[x]? := fun x hx => by
    have := Jvm.Free.Multi.fill_old (T.setVm vm₁) (cy 8) (cy 0) (6 : Int32).toNatClampNeg (6 : Int32).toNatClampNeg (defaultValue .int) (a := x) (by rw [hTh]; exact hx) (6 : Int32).toNatClampNeg
    rw [hF, hTh] at this
    exact this
  have f1' : F.heap.size = H.size + 1 + 6 := f1
  have hP0 : va_P D cl ws F.heap := hP.kept (fun k9 x hx => hold x.1 ((hP k9 x hx).lt))
  have hS0 : va_S A H0 F.heap locs := ⟨Nat.le_trans hS.1 (by omega), fun x h1 h2 => (hold x (Nat.lt_of_lt_of_le h1 hS.1)).trans (hS.2.1 x h1 h2), hS.2.2⟩
  have g0 : F.heap[H.size]? = some (vp_cell (cy 8) (6, .inr (.inr (.inr (.inr (fun j => some (H.size + 1 + j))))))) := f2.trans (congrArg some (outer6 _ _))
  have gi : ∀ j, j < 6 → F.heap[H.size + 1 + j]? = some (vp_cell (cy 0) (6, .inl (fun _ => 0))) := fun j hj => (fi j hj).trans (congrArg some (inner6 _))
  have hPn : va_P D cl [(H.size, .inl (cy 8, 6, .inr (.inr (.inr (.inr (fun j => some (H.size + 1 + j))))))), (H.size + 1, .inl (cy 0, 6, .inl (fun _ => 0))), (H.size + 1 + 1, .inl (cy 0, 6, .inl (fun _ => 0))), (H.size + 1 + 2, .inl (cy 0, 6, .inl (fun _ => 0))), (H.size + 1 + 3, .inl (cy 0, 6, .inl (fun _ => 0))), (H.size + 1 + 4, .inl (cy 0, 6, .inl (fun _ => 0))), (H.size + 1 + 5, .inl (cy 0, 6, .inl (fun _ => 0)))] F.heap := va_Pmem9 (fun q hq => by
    simp only [List.mem_cons, List.mem_nil_iff, or_false] at hq
    rcases hq with rfl | rfl | rfl | rfl | rfl | rfl | rfl
    · exact g0
    · exact gi 0 (by omega)
    · exact gi 1 (by omega)
    · exact gi 2 (by omega)
    · exact gi 3 (by omega)
    · exact gi 4 (by omega)
    · exact gi 5 (by omega))
  have hsz : H0.size ≤ H.size := hS.1
  have hDn : va_D A (ws ++ [(H.size, .inl (cy 8, 6, .inr (.inr (.inr (.inr (fun j => some (H.size + 1 + j))))))), (H.size + 1, .inl (cy 0, 6, .inl (fun _ => 0))), (H.size + 1 + 1, .inl (cy 0, 6, .inl (fun _ => 0))), (H.size + 1 + 2, .inl (cy 0, 6, .inl (fun _ => 0))), (H.size + 1 + 3, .inl (cy 0, 6, .inl (fun _ => 0))), (H.size + 1 + 4, .inl (cy 0, 6, .inl (fun _ => 0))), (H.size + 1 + 5, .inl (cy 0, 6, .inl (fun _ => 0)))]) := by
    have hw : ∀ (k : Nat) (q : Nat × va_E), ws[k]? = some q → q.1 < H.size := fun k q hq => (hP k q hq).lt
    refine ⟨fun i j a b hi hj hab => ?_, fun k q hq => ?_⟩
    · rcases Nat.lt_or_ge i ws.length with h1 | h1 <;> rcases Nat.lt_or_ge j ws.length with h2 | h2
      · rw [List.getElem?_append_left h1] at hi
        rw [List.getElem?_append_left h2] at hj
        exact hD.1 i j a b hi hj hab
      · rw [List.getElem?_append_left h1] at hi
        rw [List.getElem?_append_right h2] at hj
        have := hw i a hi
        have hb9 := List.mem_of_getElem? hj
        simp only [List.mem_cons, List.mem_nil_iff, or_false] at hb9
        rcases hb9 with rfl | rfl | rfl | rfl | rfl | rfl | rfl <;> (simp only at hab; omega)
      · rw [List.getElem?_append_right h1] at hi
        rw [List.getElem?_append_left h2] at hj
        have := hw j b hj
        have hb9 := List.mem_of_getElem? hi
        simp only [List.mem_cons, List.mem_nil_iff, or_false] at hb9
        rcases hb9 with rfl | rfl | rfl | rfl | rfl | rfl | rfl <;> (simp only at hab; omega)
      · rw [List.getElem?_append_right h1] at hi
        rw [List.getElem?_append_right h2] at hj
        have key : ∀ (k : Nat) (q : Nat × va_E), ([(H.size, .inl (cy 8, 6, .inr (.inr (.inr (.inr (fun j => some (H.size + 1 + j))))))), (H.size + 1, .inl (cy 0, 6, .inl (fun _ => 0))), (H.size + 1 + 1, .inl (cy 0, 6, .inl (fun _ => 0))), (H.size + 1 + 2, .inl (cy 0, 6, .inl (fun _ => 0))), (H.size + 1 + 3, .inl (cy 0, 6, .inl (fun _ => 0))), (H.size + 1 + 4, .inl (cy 0, 6, .inl (fun _ => 0))), (H.size + 1 + 5, .inl (cy 0, 6, .inl (fun _ => 0)))] : va_W)[k]? = some q → q.1 = H.size + k := fun k q hq => by
          rcases k with _ | _ | _ | _ | _ | _ | _ | k
          · obtain rfl := Option.some.inj hq; rfl
          · obtain rfl := Option.some.inj hq; rfl
          · obtain rfl := Option.some.inj hq; rfl
          · obtain rfl := Option.some.inj hq; rfl
          · obtain rfl := Option.some.inj hq; rfl
          · obtain rfl := Option.some.inj hq; rfl
          · obtain rfl := Option.some.inj hq; rfl
          · simp at hq
        have k1 := key _ _ hi
        have k2 := key _ _ hj
        omega
    · rcases Nat.lt_or_ge k ws.length with h1 | h1
      · rw [List.getElem?_append_left h1] at hq
        exact hD.2 k q hq
      · rw [List.getElem?_append_right h1] at hq
        have hb9 := List.mem_of_getElem? hq
        simp only [List.mem_cons, List.mem_nil_iff, or_false] at hb9
        rcases hb9 with rfl | rfl | rfl | rfl | rfl | rfl | rfl <;> exact hA _ (by simp only; omega)
  have hTs : T.heap.size = H.size := by rw [hT]
  obtain ⟨t, a1, b1⟩ := kk H.size F.heap (va_Papp9 hP0 hPn) hDn hS0 F rfl X'
  rw [← hTs] at a1
  exact ⟨t, step t a1, b1⟩
end MNA
def EnC (G : va_G) (cy : Nat → ClassId) (ws : va_W) (sz : Nat) (U : State) : Prop := En G cy ws sz U ∧ U.vm.findClass ("[" ++ (FieldType.array .int).toString) = some (cy 8)
theorem EnC.mv {cy : Nat → ClassId} {s U : State} (h : s.vm.findClass ("[" ++ (FieldType.array .int).toString) = some (cy 8)) (hW : s.WarmedH U.vm) : U.vm.findClass ("[" ++ (FieldType.array .int).toString) = some (cy 8) := by
  rw [hW.alike.findClass]
  exact h
theorem EnC.blind {G : va_G} {cy : Nat → ClassId} {ws : va_W} {sz : Nat} {av : List Value} : FrameBlind (va_Pc av (EnC G cy ws sz)) := fun a U g mk q => by
  obtain ⟨q0, q1, q2⟩ := q
  obtain ⟨-, q1'⟩ := En.blind (av := a.toList) a U g mk ⟨by simp, q1⟩
  exact ⟨q0, q1', q2⟩

