theorem k_810 : (Cond.methodLink RX3 3 objectInit) ∈ TBg := tb_mem 369 (by decide +kernel) (by decide +kernel)
theorem k_811 : (Cond.classLink RX3 18 "[[I") ∈ TBg := tb_mem 370 (by decide +kernel) (by decide +kernel)
theorem dX3_init_0 : decode cX3_init 0 = .ok (.aload_n 0, 1) := by decide +kernel
theorem dX3_init_1 : decode cX3_init 1 = .ok (.invokespecial 3, 3) := by decide +kernel
theorem dX3_init_4 : decode cX3_init 4 = .ok (.aload_n 0, 1) := by decide +kernel
theorem dX3_init_5 : decode cX3_init 5 = .ok (.bipush 6, 2) := by decide +kernel
theorem dX3_init_7 : decode cX3_init 7 = .ok (.newarray .int, 2) := by decide +kernel
theorem dX3_init_9 : decode cX3_init 9 = .ok (.putfield 9, 3) := by decide +kernel
theorem dX3_init_12 : decode cX3_init 12 = .ok (.aload_n 0, 1) := by decide +kernel
theorem dX3_init_13 : decode cX3_init 13 = .ok (.bipush 6, 2) := by decide +kernel
theorem dX3_init_15 : decode cX3_init 15 = .ok (.newarray .int, 2) := by decide +kernel
theorem dX3_init_17 : decode cX3_init 17 = .ok (.putfield 15, 3) := by decide +kernel
theorem dX3_init_20 : decode cX3_init 20 = .ok (.aload_n 0, 1) := by decide +kernel
theorem dX3_init_21 : decode cX3_init 21 = .ok (.bipush 6, 2) := by decide +kernel
theorem dX3_init_23 : decode cX3_init 23 = .ok (.bipush 6, 2) := by decide +kernel
theorem dX3_init_25 : decode cX3_init 25 = .ok (.multianewarray 18 2, 4) := by decide +kernel
theorem dX3_init_29 : decode cX3_init 29 = .ok (.putfield 20, 3) := by decide +kernel
theorem dX3_init_32 : decode cX3_init 32 = .ok (.aload_n 0, 1) := by decide +kernel
theorem dX3_init_33 : decode cX3_init 33 = .ok (.bipush 6, 2) := by decide +kernel
theorem dX3_init_35 : decode cX3_init 35 = .ok (.newarray .int, 2) := by decide +kernel
theorem dX3_init_37 : decode cX3_init 37 = .ok (.putfield 23, 3) := by decide +kernel
theorem dX3_init_40 : decode cX3_init 40 = .ok (.aload_n 0, 1) := by decide +kernel
theorem dX3_init_41 : decode cX3_init 41 = .ok (.bipush 6, 2) := by decide +kernel
theorem dX3_init_43 : decode cX3_init 43 = .ok (.newarray .int, 2) := by decide +kernel
theorem dX3_init_45 : decode cX3_init 45 = .ok (.putfield 26, 3) := by decide +kernel
theorem dX3_init_48 : decode cX3_init 48 = .ok (.return_, 1) := by decide +kernel
set_option maxHeartbeats 4000000 in
set_option maxRecDepth 100000 in
theorem n_Laying (l : Launch) (G : va_G) (cy : Nat → ClassId) (sz : Nat) (h : Nat)  : Met l yX3_init (.code yX3_init cX3_init 1 none :: TBg) ({ frames := 1, cells := 11, slots := 66, locals := 64 }) (va_Pc [.ref h] (EnC G cy [(h, .inr (3, [.null, .null, .int 0, .null, .null, .null, .int 0]))] sz)) (va_Qv (fun u : Nat → Nat => True) (fun u t => Ex G (va_A [(h, .inr (3, [.null, .null, .int 0, .null, .null, .null, .int 0]))] sz) [(h, .inr (3, [.ref (u 0), .ref (u 1), .int 0, .ref (u 2), .ref (u 3), .ref (u 4), .int 0])), ((u 0), .inl (cy 0, 6, .inl (fun _ => 0))), ((u 1), .inl (cy 0, 6, .inl (fun _ => 0))), ((u 2), .inl (cy 8, 6, .inr (.inr (.inr (.inr (fun j => some ((u 2) + 1 + j))))))), (((u 2) + 1), .inl (cy 0, 6, .inl (fun _ => 0))), (((u 2) + 1 + 1), .inl (cy 0, 6, .inl (fun _ => 0))), (((u 2) + 1 + 2), .inl (cy 0, 6, .inl (fun _ => 0))), (((u 2) + 1 + 3), .inl (cy 0, 6, .inl (fun _ => 0))), (((u 2) + 1 + 4), .inl (cy 0, 6, .inl (fun _ => 0))), (((u 2) + 1 + 5), .inl (cy 0, 6, .inl (fun _ => 0))), ((u 3), .inl (cy 0, 6, .inl (fun _ => 0))), ((u 4), .inl (cy 0, 6, .inl (fun _ => 0)))] t) (va_A [(h, .inr (3, [.null, .null, .int 0, .null, .null, .null, .int 0]))] sz)) 11 66 (va_A [(h, .inr (3, [.null, .null, .int 0, .null, .null, .null, .int 0]))] sz) := by
  refine Met.ofW (cc := cX3_init) (maxL := 1) (ret := none) (by decide) rfl ?_
  intro p e s m args below meth c s₁ B hml hv
  obtain ⟨rfl, ⟨hsz, hP, hK, hD0, hN⟩, h8⟩ := hv
  have hx := B.exec
  have hb := B.bytes
  have hr := B.returns
  have hts := atoms_spec (ws := .code yX3_init cX3_init 1 none :: TBg) B.pre
  have ht : ∀ w ∈ TBg, w.before _ s = true := fun w h => hts w (List.mem_cons_of_mem _ h)
  have hown : s.vm.findClass RX3 = some m.cls := findClass_of_methodNamed B.named
  have hlocks := B.notSynchronized
  have hin : meth.name = "<init>" := (name_of_methodNamed B.named B.method).1
  subst hsz
  have hD := hD0.self (sz := s.heap.size)
  generalize hAe : va_A [(h, .inr (3, [.null, .null, .int 0, .null, .null, .null, .int 0]))] s.heap.size = A at hD ⊢
  have hA : ∀ q : Nat, s.heap.size ≤ q → A q := fun q h => by rw [← hAe]; exact Or.inr h
  have hS : va_S A s.heap s.heap [] := va_S.rf
  have hl := lv_entry ([.ref h]) (n := 1) (Nat.le_of_ble_eq_true rfl)
  rw [lg_entry_eq]
  generalize (lg_sl ([.ref h]) ++ List.replicate (1 - (lg_sl ([.ref h])).length) Slot.unset).toArray = ls at hl ⊢
  have hl : lv_has ls 1 [(0, .ref h)] := hl
  refine lv_aload_n hx hb dX3_init_0 rfl (lv_at hl 0 rfl) ?_
  refine W.objInit hx hb hown (ht _ k_810) (ht _ k_767) (ht _ k_768) rfl (by rw [hml]; exact hl.1) rfl dX3_init_1 (Nat.le_of_ble_eq_true rfl) (Nat.le_of_ble_eq_true rfl) ?_
  refine W.eq (g2 := F0 m 4 ls []) rfl ?_
  refine lv_aload_n hx hb dX3_init_4 rfl (lv_at hl 0 rfl) ?_
  refine lv_bipush (v := 6) hx hb dX3_init_5 (by decide) ?_
  refine ow_newa (N' := 6) (atype := .int) (ty := .int) (a0 := (6, .inl (fun _ => 0))) hx hb (ht _ k_793) rfl hK hP hD hS hA 0 rfl (fun _ => rfl) (by decide) (by decide +kernel) (by decide) (Nat.le_of_ble_eq_true rfl) (Nat.le_of_ble_eq_true rfl) dX3_init_7 (fun q_1 H hP hD hS => ?_)
  refine va_putF (ci := 3) (v := .ref q_1) (ty := .array (.int)) (C := RX3) (T := TX3) (N := 7) hx hb ht iX3 tyX3 tyX3_ok nmX3 hown hK hP hD hS 0 rfl rfl 0 (by decide) (ht _ k_343) (fun _ h9 => h9) rfl hin rfl (by decide +kernel) rfl rfl (Nat.le_of_ble_eq_true rfl) dX3_init_9 (fun H locs hP hD hS => ?_)
  have hP : va_P G vwCl [(h, .inr (3, [.ref q_1, .null, .int 0, .null, .null, .null, .int 0])), (q_1, .inl (cy 0, 6, .inl (fun _ => 0)))] H := hP
  have hD : va_D A [(h, .inr (3, [.ref q_1, .null, .int 0, .null, .null, .null, .int 0])), (q_1, .inl (cy 0, 6, .inl (fun _ => 0)))] := hD
  refine lv_aload_n hx hb dX3_init_12 rfl (lv_at hl 0 rfl) ?_
  refine lv_bipush (v := 6) hx hb dX3_init_13 (by decide) ?_
  refine ow_newa (N' := 6) (atype := .int) (ty := .int) (a0 := (6, .inl (fun _ => 0))) hx hb (ht _ k_793) rfl hK hP hD hS hA 0 rfl (fun _ => rfl) (by decide) (by decide +kernel) (by decide) (Nat.le_of_ble_eq_true rfl) (Nat.le_of_ble_eq_true rfl) dX3_init_15 (fun q_2 H hP hD hS => ?_)
  refine va_putF (ci := 3) (v := .ref q_2) (ty := .array (.int)) (C := RX3) (T := TX3) (N := 7) hx hb ht iX3 tyX3 tyX3_ok nmX3 hown hK hP hD hS 0 rfl rfl 1 (by decide) (ht _ k_344) (fun _ h9 => h9) rfl hin rfl (by decide +kernel) rfl rfl (Nat.le_of_ble_eq_true rfl) dX3_init_17 (fun H locs hP hD hS => ?_)
  have hP : va_P G vwCl [(h, .inr (3, [.ref q_1, .ref q_2, .int 0, .null, .null, .null, .int 0])), (q_1, .inl (cy 0, 6, .inl (fun _ => 0))), (q_2, .inl (cy 0, 6, .inl (fun _ => 0)))] H := hP
  have hD : va_D A [(h, .inr (3, [.ref q_1, .ref q_2, .int 0, .null, .null, .null, .int 0])), (q_1, .inl (cy 0, 6, .inl (fun _ => 0))), (q_2, .inl (cy 0, 6, .inl (fun _ => 0)))] := hD
  refine lv_aload_n hx hb dX3_init_20 rfl (lv_at hl 0 rfl) ?_
  refine lv_bipush (v := 6) hx hb dX3_init_21 (by decide) ?_
  refine lv_bipush (v := 6) hx hb dX3_init_23 (by decide) ?_
  refine ow_mna2 hx hb hown (ht _ k_811) hN.2.2.2.2.2 (ht _ k_793) hK h8 hP hD hS hA (Nat.le_of_ble_eq_true rfl) (Nat.le_of_ble_eq_true rfl) dX3_init_25 (fun q_3 H hP hD hS => ?_)
  refine va_putF (ci := 3) (v := .ref q_3) (ty := .array (.array (.int))) (C := RX3) (T := TX3) (N := 7) hx hb ht iX3 tyX3 tyX3_ok nmX3 hown hK hP hD hS 0 rfl rfl 3 (by decide) (ht _ k_345) (fun _ h9 => h9) rfl hin rfl (by decide +kernel) rfl rfl (Nat.le_of_ble_eq_true rfl) dX3_init_29 (fun H locs hP hD hS => ?_)
  have hP : va_P G vwCl [(h, .inr (3, [.ref q_1, .ref q_2, .int 0, .ref q_3, .null, .null, .int 0])), (q_1, .inl (cy 0, 6, .inl (fun _ => 0))), (q_2, .inl (cy 0, 6, .inl (fun _ => 0))), (q_3, .inl (cy 8, 6, .inr (.inr (.inr (.inr (fun j => some (q_3 + 1 + j))))))), ((q_3 + 1), .inl (cy 0, 6, .inl (fun _ => 0))), ((q_3 + 1 + 1), .inl (cy 0, 6, .inl (fun _ => 0))), ((q_3 + 1 + 2), .inl (cy 0, 6, .inl (fun _ => 0))), ((q_3 + 1 + 3), .inl (cy 0, 6, .inl (fun _ => 0))), ((q_3 + 1 + 4), .inl (cy 0, 6, .inl (fun _ => 0))), ((q_3 + 1 + 5), .inl (cy 0, 6, .inl (fun _ => 0)))] H := hP
  have hD : va_D A [(h, .inr (3, [.ref q_1, .ref q_2, .int 0, .ref q_3, .null, .null, .int 0])), (q_1, .inl (cy 0, 6, .inl (fun _ => 0))), (q_2, .inl (cy 0, 6, .inl (fun _ => 0))), (q_3, .inl (cy 8, 6, .inr (.inr (.inr (.inr (fun j => some (q_3 + 1 + j))))))), ((q_3 + 1), .inl (cy 0, 6, .inl (fun _ => 0))), ((q_3 + 1 + 1), .inl (cy 0, 6, .inl (fun _ => 0))), ((q_3 + 1 + 2), .inl (cy 0, 6, .inl (fun _ => 0))), ((q_3 + 1 + 3), .inl (cy 0, 6, .inl (fun _ => 0))), ((q_3 + 1 + 4), .inl (cy 0, 6, .inl (fun _ => 0))), ((q_3 + 1 + 5), .inl (cy 0, 6, .inl (fun _ => 0)))] := hD
  refine lv_aload_n hx hb dX3_init_32 rfl (lv_at hl 0 rfl) ?_
  refine lv_bipush (v := 6) hx hb dX3_init_33 (by decide) ?_
  refine ow_newa (N' := 6) (atype := .int) (ty := .int) (a0 := (6, .inl (fun _ => 0))) hx hb (ht _ k_793) rfl hK hP hD hS hA 0 rfl (fun _ => rfl) (by decide) (by decide +kernel) (by decide) (Nat.le_of_ble_eq_true rfl) (Nat.le_of_ble_eq_true rfl) dX3_init_35 (fun q_4 H hP hD hS => ?_)
  refine va_putF (ci := 3) (v := .ref q_4) (ty := .array (.int)) (C := RX3) (T := TX3) (N := 7) hx hb ht iX3 tyX3 tyX3_ok nmX3 hown hK hP hD hS 0 rfl rfl 4 (by decide) (ht _ k_346) (fun _ h9 => h9) rfl hin rfl (by decide +kernel) rfl rfl (Nat.le_of_ble_eq_true rfl) dX3_init_37 (fun H locs hP hD hS => ?_)
  have hP : va_P G vwCl [(h, .inr (3, [.ref q_1, .ref q_2, .int 0, .ref q_3, .ref q_4, .null, .int 0])), (q_1, .inl (cy 0, 6, .inl (fun _ => 0))), (q_2, .inl (cy 0, 6, .inl (fun _ => 0))), (q_3, .inl (cy 8, 6, .inr (.inr (.inr (.inr (fun j => some (q_3 + 1 + j))))))), ((q_3 + 1), .inl (cy 0, 6, .inl (fun _ => 0))), ((q_3 + 1 + 1), .inl (cy 0, 6, .inl (fun _ => 0))), ((q_3 + 1 + 2), .inl (cy 0, 6, .inl (fun _ => 0))), ((q_3 + 1 + 3), .inl (cy 0, 6, .inl (fun _ => 0))), ((q_3 + 1 + 4), .inl (cy 0, 6, .inl (fun _ => 0))), ((q_3 + 1 + 5), .inl (cy 0, 6, .inl (fun _ => 0))), (q_4, .inl (cy 0, 6, .inl (fun _ => 0)))] H := hP
  have hD : va_D A [(h, .inr (3, [.ref q_1, .ref q_2, .int 0, .ref q_3, .ref q_4, .null, .int 0])), (q_1, .inl (cy 0, 6, .inl (fun _ => 0))), (q_2, .inl (cy 0, 6, .inl (fun _ => 0))), (q_3, .inl (cy 8, 6, .inr (.inr (.inr (.inr (fun j => some (q_3 + 1 + j))))))), ((q_3 + 1), .inl (cy 0, 6, .inl (fun _ => 0))), ((q_3 + 1 + 1), .inl (cy 0, 6, .inl (fun _ => 0))), ((q_3 + 1 + 2), .inl (cy 0, 6, .inl (fun _ => 0))), ((q_3 + 1 + 3), .inl (cy 0, 6, .inl (fun _ => 0))), ((q_3 + 1 + 4), .inl (cy 0, 6, .inl (fun _ => 0))), ((q_3 + 1 + 5), .inl (cy 0, 6, .inl (fun _ => 0))), (q_4, .inl (cy 0, 6, .inl (fun _ => 0)))] := hD
  refine lv_aload_n hx hb dX3_init_40 rfl (lv_at hl 0 rfl) ?_
  refine lv_bipush (v := 6) hx hb dX3_init_41 (by decide) ?_
  refine ow_newa (N' := 6) (atype := .int) (ty := .int) (a0 := (6, .inl (fun _ => 0))) hx hb (ht _ k_793) rfl hK hP hD hS hA 0 rfl (fun _ => rfl) (by decide) (by decide +kernel) (by decide) (Nat.le_of_ble_eq_true rfl) (Nat.le_of_ble_eq_true rfl) dX3_init_43 (fun q_5 H hP hD hS => ?_)
  refine va_putF (ci := 3) (v := .ref q_5) (ty := .array (.int)) (C := RX3) (T := TX3) (N := 7) hx hb ht iX3 tyX3 tyX3_ok nmX3 hown hK hP hD hS 0 rfl rfl 5 (by decide) (ht _ k_347) (fun _ h9 => h9) rfl hin rfl (by decide +kernel) rfl rfl (Nat.le_of_ble_eq_true rfl) dX3_init_45 (fun H locs hP hD hS => ?_)
  have hP : va_P G vwCl [(h, .inr (3, [.ref q_1, .ref q_2, .int 0, .ref q_3, .ref q_4, .ref q_5, .int 0])), (q_1, .inl (cy 0, 6, .inl (fun _ => 0))), (q_2, .inl (cy 0, 6, .inl (fun _ => 0))), (q_3, .inl (cy 8, 6, .inr (.inr (.inr (.inr (fun j => some (q_3 + 1 + j))))))), ((q_3 + 1), .inl (cy 0, 6, .inl (fun _ => 0))), ((q_3 + 1 + 1), .inl (cy 0, 6, .inl (fun _ => 0))), ((q_3 + 1 + 2), .inl (cy 0, 6, .inl (fun _ => 0))), ((q_3 + 1 + 3), .inl (cy 0, 6, .inl (fun _ => 0))), ((q_3 + 1 + 4), .inl (cy 0, 6, .inl (fun _ => 0))), ((q_3 + 1 + 5), .inl (cy 0, 6, .inl (fun _ => 0))), (q_4, .inl (cy 0, 6, .inl (fun _ => 0))), (q_5, .inl (cy 0, 6, .inl (fun _ => 0)))] H := hP
  have hD : va_D A [(h, .inr (3, [.ref q_1, .ref q_2, .int 0, .ref q_3, .ref q_4, .ref q_5, .int 0])), (q_1, .inl (cy 0, 6, .inl (fun _ => 0))), (q_2, .inl (cy 0, 6, .inl (fun _ => 0))), (q_3, .inl (cy 8, 6, .inr (.inr (.inr (.inr (fun j => some (q_3 + 1 + j))))))), ((q_3 + 1), .inl (cy 0, 6, .inl (fun _ => 0))), ((q_3 + 1 + 1), .inl (cy 0, 6, .inl (fun _ => 0))), ((q_3 + 1 + 2), .inl (cy 0, 6, .inl (fun _ => 0))), ((q_3 + 1 + 3), .inl (cy 0, 6, .inl (fun _ => 0))), ((q_3 + 1 + 4), .inl (cy 0, 6, .inl (fun _ => 0))), ((q_3 + 1 + 5), .inl (cy 0, 6, .inl (fun _ => 0))), (q_4, .inl (cy 0, 6, .inl (fun _ => 0))), (q_5, .inl (cy 0, 6, .inl (fun _ => 0)))] := hD
  refine W.widen (k := 11) (n := 66) (Nat.le_of_ble_eq_true rfl) (Nat.le_of_ble_eq_true rfl) ?_
  have hP9 : va_P G vwCl [(h, .inr (3, [.ref ((lst [q_1, q_2, q_3, q_4, q_5]) 0), .ref ((lst [q_1, q_2, q_3, q_4, q_5]) 1), .int 0, .ref ((lst [q_1, q_2, q_3, q_4, q_5]) 2), .ref ((lst [q_1, q_2, q_3, q_4, q_5]) 3), .ref ((lst [q_1, q_2, q_3, q_4, q_5]) 4), .int 0])), (((lst [q_1, q_2, q_3, q_4, q_5]) 0), .inl (cy 0, 6, .inl (fun _ => 0))), (((lst [q_1, q_2, q_3, q_4, q_5]) 1), .inl (cy 0, 6, .inl (fun _ => 0))), (((lst [q_1, q_2, q_3, q_4, q_5]) 2), .inl (cy 8, 6, .inr (.inr (.inr (.inr (fun j => some (((lst [q_1, q_2, q_3, q_4, q_5]) 2) + 1 + j))))))), ((((lst [q_1, q_2, q_3, q_4, q_5]) 2) + 1), .inl (cy 0, 6, .inl (fun _ => 0))), ((((lst [q_1, q_2, q_3, q_4, q_5]) 2) + 1 + 1), .inl (cy 0, 6, .inl (fun _ => 0))), ((((lst [q_1, q_2, q_3, q_4, q_5]) 2) + 1 + 2), .inl (cy 0, 6, .inl (fun _ => 0))), ((((lst [q_1, q_2, q_3, q_4, q_5]) 2) + 1 + 3), .inl (cy 0, 6, .inl (fun _ => 0))), ((((lst [q_1, q_2, q_3, q_4, q_5]) 2) + 1 + 4), .inl (cy 0, 6, .inl (fun _ => 0))), ((((lst [q_1, q_2, q_3, q_4, q_5]) 2) + 1 + 5), .inl (cy 0, 6, .inl (fun _ => 0))), (((lst [q_1, q_2, q_3, q_4, q_5]) 3), .inl (cy 0, 6, .inl (fun _ => 0))), (((lst [q_1, q_2, q_3, q_4, q_5]) 4), .inl (cy 0, 6, .inl (fun _ => 0)))] _ := hP.sub [0, 1, 2, 3, 4, 5, 6, 7, 8, 9, 10, 11] rfl
  have hD9 : va_D A [(h, .inr (3, [.ref ((lst [q_1, q_2, q_3, q_4, q_5]) 0), .ref ((lst [q_1, q_2, q_3, q_4, q_5]) 1), .int 0, .ref ((lst [q_1, q_2, q_3, q_4, q_5]) 2), .ref ((lst [q_1, q_2, q_3, q_4, q_5]) 3), .ref ((lst [q_1, q_2, q_3, q_4, q_5]) 4), .int 0])), (((lst [q_1, q_2, q_3, q_4, q_5]) 0), .inl (cy 0, 6, .inl (fun _ => 0))), (((lst [q_1, q_2, q_3, q_4, q_5]) 1), .inl (cy 0, 6, .inl (fun _ => 0))), (((lst [q_1, q_2, q_3, q_4, q_5]) 2), .inl (cy 8, 6, .inr (.inr (.inr (.inr (fun j => some (((lst [q_1, q_2, q_3, q_4, q_5]) 2) + 1 + j))))))), ((((lst [q_1, q_2, q_3, q_4, q_5]) 2) + 1), .inl (cy 0, 6, .inl (fun _ => 0))), ((((lst [q_1, q_2, q_3, q_4, q_5]) 2) + 1 + 1), .inl (cy 0, 6, .inl (fun _ => 0))), ((((lst [q_1, q_2, q_3, q_4, q_5]) 2) + 1 + 2), .inl (cy 0, 6, .inl (fun _ => 0))), ((((lst [q_1, q_2, q_3, q_4, q_5]) 2) + 1 + 3), .inl (cy 0, 6, .inl (fun _ => 0))), ((((lst [q_1, q_2, q_3, q_4, q_5]) 2) + 1 + 4), .inl (cy 0, 6, .inl (fun _ => 0))), ((((lst [q_1, q_2, q_3, q_4, q_5]) 2) + 1 + 5), .inl (cy 0, 6, .inl (fun _ => 0))), (((lst [q_1, q_2, q_3, q_4, q_5]) 3), .inl (cy 0, 6, .inl (fun _ => 0))), (((lst [q_1, q_2, q_3, q_4, q_5]) 4), .inl (cy 0, 6, .inl (fun _ => 0)))] := hD.sub [0, 1, 2, 3, 4, 5, 6, 7, 8, 9, 10, 11] (by decide) rfl
  exact W.vret hx hb hr (fun t ht9 hW => ⟨⟨(lst [q_1, q_2, q_3, q_4, q_5]), rfl, trivial, ⟨by rw [ht9]; exact hP9, hD9⟩⟩, hS.F ht9⟩) hS.2.2 dX3_init_48
