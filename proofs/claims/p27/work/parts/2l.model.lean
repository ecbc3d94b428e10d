theorem k_275 : (Cond.code yX12_behindUnit cX12_behindUnit 2 (some .boolean)) ∈ TBg := tb_mem 1310 (by decide +kernel) (by decide +kernel)
theorem k_276 : (Cond.methodLink RX12 296 yX12_behindUnit) ∈ TBg := tb_mem 1307 (by decide +kernel) (by decide +kernel)
theorem k_277 : (Cond.instanceMethod yX12_behindUnit) ∈ TBg := tb_mem 1309 (by decide +kernel) (by decide +kernel)
theorem k_278 : (Cond.selects RX12 yX12_behindUnit yX12_behindUnit) ∈ TBg := tb_mem 53 (by decide +kernel) (by decide +kernel)
theorem k_279 : (Cond.code yX12_unit cX12_unit 6 (some .boolean)) ∈ TBg := tb_mem 1294 (by decide +kernel) (by decide +kernel)
theorem k_280 : (Cond.methodLink RX12 293 yX12_unit) ∈ TBg := tb_mem 1291 (by decide +kernel) (by decide +kernel)
theorem k_281 : (Cond.instanceMethod yX12_unit) ∈ TBg := tb_mem 1293 (by decide +kernel) (by decide +kernel)
theorem k_282 : (Cond.selects RX12 yX12_unit yX12_unit) ∈ TBg := tb_mem 49 (by decide +kernel) (by decide +kernel)
theorem dX12_e_0 : decode cX12_e 0 = .ok (.aload_n 0, 1) := by decide +kernel
theorem dX12_e_1 : decode cX12_e 1 = .ok (.iconst 0, 1) := by decide +kernel
theorem dX12_e_2 : decode cX12_e 2 = .ok (.putfield 284, 3) := by decide +kernel
theorem dX12_e_5 : decode cX12_e 5 = .ok (.aload_n 0, 1) := by decide +kernel
theorem dX12_e_6 : decode cX12_e 6 = .ok (.iconst 0, 1) := by decide +kernel
theorem dX12_e_7 : decode cX12_e 7 = .ok (.putfield 287, 3) := by decide +kernel
theorem dX12_e_10 : decode cX12_e 10 = .ok (.aload_n 0, 1) := by decide +kernel
theorem dX12_e_11 : decode cX12_e 11 = .ok (.bipush 7, 2) := by decide +kernel
theorem dX12_e_13 : decode cX12_e 13 = .ok (.iconst 0, 1) := by decide +kernel
theorem dX12_e_14 : decode cX12_e 14 = .ok (.invokevirtual 290, 3) := by decide +kernel
theorem dX12_e_17 : decode cX12_e 17 = .ok (.iconst 1, 1) := by decide +kernel
theorem dX12_e_18 : decode cX12_e 18 = .ok (.istore_n 1, 1) := by decide +kernel
theorem dX12_e_19 : decode cX12_e 19 = .ok (.aload_n 0, 1) := by decide +kernel
theorem dX12_e_20 : decode cX12_e 20 = .ok (.invokevirtual 208, 3) := by decide +kernel
theorem dX12_e_23 : decode cX12_e 23 = .ok (.ifCond .eq 29, 3) := by decide +kernel
theorem dX12_e_52 : decode cX12_e 52 = .ok (.return_, 1) := by decide +kernel
theorem dX12_e_26 : decode cX12_e 26 = .ok (.aload_n 0, 1) := by decide +kernel
theorem dX12_e_27 : decode cX12_e 27 = .ok (.getfield 284, 3) := by decide +kernel
theorem dX12_e_30 : decode cX12_e 30 = .ok (.ifCond .le 22, 3) := by decide +kernel
theorem dX12_e_33 : decode cX12_e 33 = .ok (.iload_n 1, 1) := by decide +kernel
theorem dX12_e_34 : decode cX12_e 34 = .ok (.ifCond .eq 10, 3) := by decide +kernel
theorem dX12_e_44 : decode cX12_e 44 = .ok (.aload_n 0, 1) := by decide +kernel
theorem dX12_e_45 : decode cX12_e 45 = .ok (.invokevirtual 296, 3) := by decide +kernel
theorem dX12_e_48 : decode cX12_e 48 = .ok (.istore_n 1, 1) := by decide +kernel
theorem dX12_e_49 : decode cX12_e 49 = .ok (.goto (-30), 3) := by decide +kernel
theorem dX12_e_37 : decode cX12_e 37 = .ok (.aload_n 0, 1) := by decide +kernel
theorem dX12_e_38 : decode cX12_e 38 = .ok (.invokevirtual 293, 3) := by decide +kernel
theorem dX12_e_41 : decode cX12_e 41 = .ok (.goto 7, 3) := by decide +kernel
set_option maxHeartbeats 4000000 in
set_option maxRecDepth 100000 in
theorem m_e (l : Launch) (G : va_G) (cy : Nat → ClassId) (sz : Nat) (mo : Nat) (h : Nat → Nat) (T : Int) (v : Nat → Int32) (nm : Int64) (f : Nat → Nat → Int32) (g : Nat → Nat → Int64)   (hv : MIv T v) (hf : MIf f) (hR : RI v f) (hL : WL v f) (he : (v 7).toInt ≤ (v 3).toInt) (hrb : (v 30).toInt + (v 29).toInt = 1) (hF9 : 600 * (v 30).toInt ≤ (v 31).toInt ∧ ((v 4).toInt ≠ 0 ∨ (v 31).toInt ≤ 600 * (v 30).toInt + 9 * (f 13 (Int32.toNatClampNeg (v 30))).toInt)) : Met l yX12_e (.code yX12_e cX12_e 2 none :: TBg) ({ frames := 5, cells := 0, slots := 0, locals := 320 }) (va_Pc [.ref mo] (En G cy (WMs cy mo h v nm f g) sz)) (va_Qv (fun (u : (Nat → Int32) × Int64 × (Nat → Nat → Int32) × (Nat → Nat → Int64)) => MIv T u.1 ∧ MIf u.2.2.1 ∧ RI u.1 u.2.2.1 ∧ WL u.1 u.2.2.1 ∧ FV [4, 5, 6, 7, 8, 9, 31, 32, 33] v u.1 ∧ FF [13, 24, 25, 26, 27] f u.2.2.1 ∧ (((u.1 7).toInt ≤ (v 3).toInt ∧ ((u.1 4).toInt ≠ 0 ∨ (v 4).toInt = 0))) ∧ (0 ≤ mz (v 3).toInt (u.1 7).toInt (u.1 8).toInt ∧ mz (v 3).toInt (u.1 7).toInt (u.1 8).toInt ≤ mz (v 3).toInt (v 7).toInt (v 8).toInt) ∧ ((u.1 4).toInt = 0 → wfr (u.2.2.1 24) (u.2.2.1 25) (v 31).toInt.toNat (u.1 31).toInt.toNat ∧ (v 31).toInt ≤ (u.1 31).toInt ∧ (u.1 31).toInt ≤ 600 * (v 30).toInt + 9 * (u.2.2.1 13 (Int32.toNatClampNeg (v 30))).toInt) ∧ (OUT (v 31).toInt (600 * (v 30).toInt + 600) (f 24) (f 25) (u.2.2.1 24) (u.2.2.1 25))) (fun u t => Ex G (va_A (WMs cy mo h v nm f g) sz) (WMs cy mo h u.1 u.2.1 u.2.2.1 u.2.2.2) t) (va_A (WMs cy mo h v nm f g) sz)) 0 0 (va_A (WMs cy mo h v nm f g) sz) := by
  refine Met.ofW (cc := cX12_e) (maxL := 2) (ret := none) (by decide) rfl ?_
  intro p e s m args below meth c s₁ B hml hv9
  obtain ⟨rfl, hsz, hP, hK, hD0, hN⟩ := hv9
  have hx := B.exec
  have hb := B.bytes
  have hr := B.returns
  have hts := atoms_spec (ws := .code yX12_e cX12_e 2 none :: TBg) B.pre
  have ht : ∀ w ∈ TBg, w.before _ s = true := fun w h => hts w (List.mem_cons_of_mem _ h)
  have hown : s.vm.findClass RX12 = some m.cls := findClass_of_methodNamed B.named
  have hlocks := B.notSynchronized
  subst hsz
  have hD := hD0.self (sz := s.heap.size)
  generalize hAe : va_A (WMs cy mo h v nm f g) s.heap.size = A at hD ⊢
  have hA : ∀ q : Nat, s.heap.size ≤ q → A q := fun q h => by rw [← hAe]; exact Or.inr h
  have hS : va_S A s.heap s.heap [] := va_S.rf
  have hl := lv_entry ([.ref mo]) (n := 2) (Nat.le_of_ble_eq_true rfl)
  rw [lg_entry_eq]
  generalize (lg_sl ([.ref mo]) ++ List.replicate (2 - (lg_sl ([.ref mo])).length) Slot.unset).toArray = ls at hl ⊢
  have hl : lv_has ls 2 [(0, .ref mo)] := hl
  have z0 : (0 : Int32).toInt = 0 := by decide
  have z1 : (1 : Int32).toInt = 1 := by decide
  have z2 : (7 : Int32).toInt = 7 := by decide
  have hf_0 := hf
  have hV_0 : FV [4, 5, 6, 7, 8, 9, 31, 32, 33] v v := FV.rf
  have hF_0 : FF [13, 24, 25, 26, 27] f f := FF.rf
  have hmz0 : 0 ≤ mz (v 3).toInt (v 7).toInt (v 8).toInt := mz_nn he
  have rg4 : 0 ≤ (v 4).toInt ∧ (v 4).toInt ≤ 5 := hv 4
  have rg29 : 0 ≤ (v 29).toInt ∧ (v 29).toInt ≤ 1 := hv 29
  have rg30 : 0 ≤ (v 30).toInt ∧ (v 30).toInt ≤ 1 := hv 30
  have rg31 : 0 ≤ (v 31).toInt ∧ (v 31).toInt ≤ 1200 := hv 31
  have rg33 : 0 ≤ (v 33).toInt ∧ (v 33).toInt ≤ 120 := hv 33
  have rgU : 0 ≤ (f 13 (Int32.toNatClampNeg (v 30))).toInt ∧ (f 13 (Int32.toNatClampNeg (v 30))).toInt ≤ 60 := hf 13 _ (show (Int32.toNatClampNeg (v 30)) < 2 from by rw [ow_tn]; omega)
  refine lv_aload_n hx hb dX12_e_0 rfl (lv_at hl 0 rfl) ?_
  refine lv_iconst (v := 0) hx hb dX12_e_1 (by decide) ?_
  refine mp_33 hx hb ht hown hK hP hD hS dX12_e_2 (fun H locs hP hD hS => ?_)
  replace hv := MIv.up 33 hv (show 0 ≤ (0 : Int32).toInt ∧ (0 : Int32).toInt ≤ 120 from by omega)
  replace hL : WL (va_up v 33 0) f := WL.upv 33 hL (by decide)
  replace hR : RI (va_up v 33 0) f := RI.upv 33 hR (by decide)
  replace hV_0 := FV.up hV_0 33 (0) (by decide)
  refine lv_aload_n hx hb dX12_e_5 rfl (lv_at hl 0 rfl) ?_
  refine lv_iconst (v := 0) hx hb dX12_e_6 (by decide) ?_
  refine mp_32 hx hb ht hown hK hP hD hS dX12_e_7 (fun H locs hP hD hS => ?_)
  replace hv := MIv.up 32 hv (show 0 ≤ (0 : Int32).toInt ∧ (0 : Int32).toInt ≤ 7 from by omega)
  replace hL : WL (va_up (va_up v 33 0) 32 0) f := WL.upv 32 hL (by decide)
  replace hR : RI (va_up (va_up v 33 0) 32 0) f := RI.upv 32 hR (by decide)
  replace hV_0 := FV.up hV_0 32 (0) (by decide)
  refine lv_aload_n hx hb dX12_e_10 rfl (lv_at hl 0 rfl) ?_
  refine lv_bipush (v := 7) hx hb dX12_e_11 (by decide) ?_
  refine lv_iconst (v := 0) hx hb dX12_e_13 (by decide) ?_
  have hFc := fr_free hD hS hA
  refine va_callv (va_runV (As := [.int 7, .int 0]) (rest := []) ⟨hx, hb, hml, hown, ht⟩ (m_pushE l G cy _ mo h T (va_up (va_up v 33 0) 32 0) nm f g (7) (0) ((0 : Int32)) hv hf hR hL rfl (show 0 ≤ ((0 : Int32)).toInt ∧ ((0 : Int32)).toInt ≤ 119 from by omega)) (cwV 2 ht (gv k_252 k_253 k_254 k_61 k_251) rfl rfl rfl (by decide +kernel) ⟨Nat.le_of_ble_eq_true rfl, Nat.le_of_ble_eq_true rfl⟩) ⟨En.blind, va_recv hK hP (ci := 12) (q0 := 0) rfl rfl, fun U hU hW => ⟨rfl, En.of hU hW hP hK hD hN⟩⟩ rfl rfl hl.1 rfl (lv_room (Nat.le_of_ble_eq_true rfl)) dX12_e_14 ⟨Nat.le_of_ble_eq_true rfl, Nat.le_of_ble_eq_true rfl⟩) hS (fun q _ h => hFc q h) hFc (fun u_1 t9 H locs ht9 hvm hw hB hz1 hk1 hS => ?_)
  obtain ⟨hP1, hD1⟩ := hB
  rw [ht9] at hP1
  have wu_1 := hw
  have q_3 : ((0 : Int32) + 1).toInt = (0 : Int32).toInt + 1 := ow_add rfl (by omega) (by omega)
  replace hv := MIv.up 33 hv (show 0 ≤ ((0 : Int32) + 1).toInt ∧ ((0 : Int32) + 1).toInt ≤ 120 from by omega)
  replace hR : RI (va_up (va_up (va_up v 33 0) 32 0) 33 ((0 : Int32) + 1)) f := RI.upv 33 hR (by decide)
  replace hL : WL (va_up (va_up (va_up v 33 0) 32 0) 33 ((0 : Int32) + 1)) f := WL.upv 33 hL (by decide)
  replace hV_0 := FV.up hV_0 33 ((0 : Int32) + 1) (by decide)
  replace hf := MIf.up 26 (i := (Int32.toNatClampNeg (0 : Int32))) hf (ow_any (7 : Int32))
  replace hF_0 := FF.up hF_0 26 (upd (f 26) (Int32.toNatClampNeg (0 : Int32)) (7 : Int32)) (by decide)
  replace hR : RI (va_up (va_up (va_up v 33 0) 32 0) 33 ((0 : Int32) + 1)) (va_up f 26 (upd (f 26) (Int32.toNatClampNeg (0 : Int32)) (7 : Int32))) := RI.up 26 hR (by decide)
  replace hL : WL (va_up (va_up (va_up v 33 0) 32 0) 33 ((0 : Int32) + 1)) (va_up f 26 (upd (f 26) (Int32.toNatClampNeg (0 : Int32)) (7 : Int32))) := WL.upf 26 hL (by decide)
  replace hf := MIf.up 27 (i := (Int32.toNatClampNeg (0 : Int32))) hf (ow_any (0 : Int32))
  replace hF_0 := FF.up hF_0 27 (upd ((va_up f 26 (upd (f 26) (Int32.toNatClampNeg (0 : Int32)) (7 : Int32))) 27) (Int32.toNatClampNeg (0 : Int32)) (0 : Int32)) (by decide)
  replace hR : RI (va_up (va_up (va_up v 33 0) 32 0) 33 ((0 : Int32) + 1)) (va_up (va_up f 26 (upd (f 26) (Int32.toNatClampNeg (0 : Int32)) (7 : Int32))) 27 (upd ((va_up f 26 (upd (f 26) (Int32.toNatClampNeg (0 : Int32)) (7 : Int32))) 27) (Int32.toNatClampNeg (0 : Int32)) (0 : Int32))) := RI.up 27 hR (by decide)
  replace hL : WL (va_up (va_up (va_up v 33 0) 32 0) 33 ((0 : Int32) + 1)) (va_up (va_up f 26 (upd (f 26) (Int32.toNatClampNeg (0 : Int32)) (7 : Int32))) 27 (upd ((va_up f 26 (upd (f 26) (Int32.toNatClampNeg (0 : Int32)) (7 : Int32))) 27) (Int32.toNatClampNeg (0 : Int32)) (0 : Int32))) := WL.upf 27 hL (by decide)
  have hP : va_P G vwCl (WMs cy mo h (va_up (va_up (va_up v 33 0) 32 0) 33 ((0 : Int32) + 1)) nm (va_up (va_up f 26 (upd (f 26) (Int32.toNatClampNeg (0 : Int32)) (7 : Int32))) 27 (upd ((va_up f 26 (upd (f 26) (Int32.toNatClampNeg (0 : Int32)) (7 : Int32))) 27) (Int32.toNatClampNeg (0 : Int32)) (0 : Int32))) g) H := hP1
  have hD : va_D A (WMs cy mo h (va_up (va_up (va_up v 33 0) 32 0) 33 ((0 : Int32) + 1)) nm (va_up (va_up f 26 (upd (f 26) (Int32.toNatClampNeg (0 : Int32)) (7 : Int32))) 27 (upd ((va_up f 26 (upd (f 26) (Int32.toNatClampNeg (0 : Int32)) (7 : Int32))) 27) (Int32.toNatClampNeg (0 : Int32)) (0 : Int32))) g) := hD1.weaken (fun _ _ _ h => hFc _ h)
  clear hFc hk1 hz1 hP1 hD1 hw
  refine lv_iconst (v := 1) hx hb dX12_e_17 (by decide) ?_
  refine lv_istore_n (lv' := [(1, .int 1), (0, .ref mo)]) hx hb dX12_e_18 rfl hl (by decide) rfl (fun ls hl => ?_)
  refine W.widen (k := 0) (n := 0) (Nat.le_of_ble_eq_true rfl) (Nat.le_of_ble_eq_true rfl) ?_
  have lp_4 : ∀ (N_4 : Nat) (x1_4 : Int32) (v4 : Nat → Int32) (nm4 : Int64) (f4 : Nat → Nat → Int32) (g4 : Nat → Nat → Int64) (H : Heap) (locs : List Loc) (ls : Array Slot), MIv T v4 → MIf f4 → RI v4 f4 → WL v4 f4 → FV [4, 5, 6, 7, 8, 9, 31, 32, 33] (va_up (va_up (va_up v 33 0) 32 0) 33 ((0 : Int32) + 1)) v4 → FF [13, 24, 25, 26, 27] (va_up (va_up f 26 (upd (f 26) (Int32.toNatClampNeg (0 : Int32)) (7 : Int32))) 27 (upd ((va_up f 26 (upd (f 26) (Int32.toNatClampNeg (0 : Int32)) (7 : Int32))) 27) (Int32.toNatClampNeg (0 : Int32)) (0 : Int32))) f4 → (0 ≤ x1_4.toInt ∧ x1_4.toInt ≤ 1) → ((v4 7).toInt ≤ (v 3).toInt ∧ ((v4 4).toInt ≠ 0 ∨ (v 4).toInt = 0) ∧ 0 ≤ mz (v 3).toInt (v4 7).toInt (v4 8).toInt ∧ mz (v 3).toInt (v4 7).toInt (v4 8).toInt ≤ mz (v 3).toInt (v 7).toInt (v 8).toInt) → ((v4 4).toInt = 0 → EI x1_4.toInt (v 30).toInt (v 31).toInt (v4 31).toInt (v4 33).toInt (v4 32).toInt ((f4 13) (Int32.toNatClampNeg (v 30))).toInt (f4 26) (f4 27) (f4 24) (f4 25)) → (OUT (v 31).toInt (600 * (v 30).toInt + 600) (f 24) (f 25) (f4 24) (f4 25)) → tkm (200 * mz (v 3).toInt (v4 7).toInt (v4 8).toInt + (v4 33).toInt) (v4 4).toInt < N_4 → va_P G vwCl (WMs cy mo h v4 nm4 f4 g4) H → va_D A (WMs cy mo h v4 nm4 f4 g4) → va_S A s.heap H locs → lv_has ls 2 [(1, .int x1_4), (0, .ref mo)] → W p l e (headSpec (.code yX12_e cX12_e 2 none :: TBg) ({ frames := 5, cells := 0, slots := 0, locals := 320 })).room s m ([.ref mo] : List Value).toArray below meth c H locs 0 0 (MQ below (va_Qv (fun (u : (Nat → Int32) × Int64 × (Nat → Nat → Int32) × (Nat → Nat → Int64)) => MIv T u.1 ∧ MIf u.2.2.1 ∧ RI u.1 u.2.2.1 ∧ WL u.1 u.2.2.1 ∧ FV [4, 5, 6, 7, 8, 9, 31, 32, 33] v u.1 ∧ FF [13, 24, 25, 26, 27] f u.2.2.1 ∧ (((u.1 7).toInt ≤ (v 3).toInt ∧ ((u.1 4).toInt ≠ 0 ∨ (v 4).toInt = 0))) ∧ (0 ≤ mz (v 3).toInt (u.1 7).toInt (u.1 8).toInt ∧ mz (v 3).toInt (u.1 7).toInt (u.1 8).toInt ≤ mz (v 3).toInt (v 7).toInt (v 8).toInt) ∧ ((u.1 4).toInt = 0 → wfr (u.2.2.1 24) (u.2.2.1 25) (v 31).toInt.toNat (u.1 31).toInt.toNat ∧ (v 31).toInt ≤ (u.1 31).toInt ∧ (u.1 31).toInt ≤ 600 * (v 30).toInt + 9 * (u.2.2.1 13 (Int32.toNatClampNeg (v 30))).toInt) ∧ (OUT (v 31).toInt (600 * (v 30).toInt + 600) (f 24) (f 25) (u.2.2.1 24) (u.2.2.1 25))) (fun u t => Ex G A (WMs cy mo h u.1 u.2.1 u.2.2.1 u.2.2.2) t) A) ([.ref mo] : List Value).toArray s 0 0 A) (F0 m 19 ls []) := by
    intro N_4
    induction N_4 with
    | zero => intro x1_4 v4 nm4 f4 g4 H locs ls hv hf hR hL hV_4 hF_4 qf4_0 qf4_1 qf4_2 qf4_3 hm hP hD hS hl; exact absurd hm (Nat.not_lt_zero _)
    | succ N_4 ih_4 =>
      intro x1_4 v4 nm4 f4 g4 H locs ls hv hf hR hL hV_4 hF_4 qf4_0 qf4_1 qf4_2 qf4_3 hm hP hD hS hl
      replace hV_0 := FV.tr hV_0 hV_4 (by decide)
      replace hF_0 := FF.tr hF_0 hF_4 (by decide)
      replace hW_4 := hV_4
      replace hY_4 := hF_4
      have h33n : 0 ≤ (v4 33).toInt ∧ (v4 33).toInt ≤ 120 := hv 33
      refine lv_aload_n hx hb dX12_e_19 rfl (lv_at hl 1 rfl) ?_
      have hFc := fr_new hS hA
      refine va_calli (va_runV (As := []) (rest := []) ⟨hx, hb, hml, hown, ht⟩ (m_isGood l G cy _ mo h T v4 nm4 f4 g4   hv hf hR hL) (cwV 0 ht (gv k_224 k_225 k_226 k_61 k_223) rfl rfl rfl (by decide +kernel) ⟨Nat.le_of_ble_eq_true rfl, Nat.le_of_ble_eq_true rfl⟩) ⟨En.blind, va_recv hK hP (ci := 12) (q0 := 0) rfl rfl, fun U hU hW => ⟨rfl, En.of hU hW hP hK hD hN⟩⟩ rfl rfl hl.1 rfl (lv_room (Nat.le_of_ble_eq_true rfl)) dX12_e_20 ⟨Nat.le_of_ble_eq_true rfl, Nat.le_of_ble_eq_true rfl⟩) hS (fun q _ h => hFc q h) hFc (fun r_u_5 u_5 t9 H locs ht9 hvm hw hB hz1 hk1 hS => ?_)
      have hP := fr_keep hP hk1
      have wu_5 := hw
      clear hFc hk1 hz1 hB hw
      replace wu_5 : (r_u_5.toInt = 0 ∨ r_u_5.toInt = 1) ∧ ((r_u_5.toInt = 1 ∧ (v4 4).toInt = 0) ∨ (r_u_5.toInt = 0 ∧ (v4 4).toInt ≠ 0)) := wu_5
      refine lv_if_eq (tgt := 52) hx hb dX12_e_23 (by decide) (fun c_6 => ?_) (fun c_6 => ?_)
      · have q_7 : r_u_5.toInt = (0 : Int32).toInt := (ow_eq _ _).mp c_6
        refine W.widen (k := 0) (n := 0) (Nat.le_of_ble_eq_true rfl) (Nat.le_of_ble_eq_true rfl) ?_
        exact W.vret hx hb hr (fun t ht9 hW => ⟨⟨(v4, nm4, f4, g4), rfl, ⟨hv, hf, hR, hL, hV_0, hF_0, (show (v4 7).toInt ≤ (v 3).toInt ∧ ((v4 4).toInt ≠ 0 ∨ (v 4).toInt = 0) from by first | omega | (subst_vars; first | rfl | omega)), (show 0 ≤ mz (v 3).toInt (v4 7).toInt (v4 8).toInt ∧ mz (v 3).toInt (v4 7).toInt (v4 8).toInt ≤ mz (v 3).toInt (v 7).toInt (v 8).toInt from by omega), (show (v4 4).toInt = 0 → wfr (f4 24) (f4 25) (v 31).toInt.toNat (v4 31).toInt.toNat ∧ (v 31).toInt ≤ (v4 31).toInt ∧ (v4 31).toInt ≤ 600 * (v 30).toInt + 9 * ((f4 13) (Int32.toNatClampNeg (v 30))).toInt from by exact fun h9 => ⟨(qf4_2 h9).wf, (qf4_2 h9).f1, by have h8 := (qf4_2 h9).c0; have h7 := (qf4_2 h9).p1; omega⟩), (show OUT (v 31).toInt (600 * (v 30).toInt + 600) (f 24) (f 25) (f4 24) (f4 25) from by exact qf4_3)⟩, ⟨by rw [ht9]; exact hP, hD⟩⟩, hS.F ht9⟩) hS.2.2 dX12_e_52
      · have q_8 : ¬ r_u_5.toInt = (0 : Int32).toInt := by have := (not_congr (ow_eq _ _)).mp c_6; omega
        refine lv_aload_n hx hb dX12_e_26 rfl (lv_at hl 1 rfl) ?_
        refine mg_33 hx hb ht hown hK hP dX12_e_27 ?_
        have q_9 : 0 ≤ (v4 33).toInt ∧ (v4 33).toInt ≤ 120 := hv 33
        refine lv_if_le (tgt := 52) hx hb dX12_e_30 (by decide) (fun c_10 => ?_) (fun c_10 => ?_)
        · have q_11 : (v4 33).toInt ≤ (0 : Int32).toInt := (ow_le _ _).mp c_10
          refine W.widen (k := 0) (n := 0) (Nat.le_of_ble_eq_true rfl) (Nat.le_of_ble_eq_true rfl) ?_
          exact W.vret hx hb hr (fun t ht9 hW => ⟨⟨(v4, nm4, f4, g4), rfl, ⟨hv, hf, hR, hL, hV_0, hF_0, (show (v4 7).toInt ≤ (v 3).toInt ∧ ((v4 4).toInt ≠ 0 ∨ (v 4).toInt = 0) from by first | omega | (subst_vars; first | rfl | omega)), (show 0 ≤ mz (v 3).toInt (v4 7).toInt (v4 8).toInt ∧ mz (v 3).toInt (v4 7).toInt (v4 8).toInt ≤ mz (v 3).toInt (v 7).toInt (v 8).toInt from by omega), (show (v4 4).toInt = 0 → wfr (f4 24) (f4 25) (v 31).toInt.toNat (v4 31).toInt.toNat ∧ (v 31).toInt ≤ (v4 31).toInt ∧ (v4 31).toInt ≤ 600 * (v 30).toInt + 9 * ((f4 13) (Int32.toNatClampNeg (v 30))).toInt from by exact fun h9 => ⟨(qf4_2 h9).wf, (qf4_2 h9).f1, by have h8 := (qf4_2 h9).c0; have h7 := (qf4_2 h9).p1; omega⟩), (show OUT (v 31).toInt (600 * (v 30).toInt + 600) (f 24) (f 25) (f4 24) (f4 25) from by exact qf4_3)⟩, ⟨by rw [ht9]; exact hP, hD⟩⟩, hS.F ht9⟩) hS.2.2 dX12_e_52
        · have q_12 : (0 : Int32).toInt < (v4 33).toInt := by have := (not_congr (ow_le _ _)).mp c_10; omega
          refine lv_iload_n hx hb dX12_e_33 rfl (lv_at hl 0 rfl) ?_
          refine lv_if_eq (tgt := 44) hx hb dX12_e_34 (by decide) (fun c_13 => ?_) (fun c_13 => ?_)
          · have q_14 : x1_4.toInt = (0 : Int32).toInt := (ow_eq _ _).mp c_13
            refine lv_aload_n hx hb dX12_e_44 rfl (lv_at hl 1 rfl) ?_
            have hFc := fr_free hD hS hA
            refine va_calli (va_runV (As := []) (rest := []) ⟨hx, hb, hml, hown, ht⟩ (m_behindUnit l G cy _ mo h T v4 nm4 f4 g4  ((v 31).toInt) hv hf hR hL (show (v4 7).toInt ≤ (v4 3).toInt from by rw [(show v4 3 = (v 3) from (hV_4 3 (by decide)))]; omega) (show EI 0 (v4 30).toInt (v 31).toInt (v4 31).toInt (v4 33).toInt (v4 32).toInt ((f4 13) (Int32.toNatClampNeg (v4 30))).toInt (f4 26) (f4 27) (f4 24) (f4 25) from by rw [(show v4 30 = (v 30) from (hV_4 30 (by decide)))]; exact EI.cast (qf4_2 (by omega)) (by omega) rfl rfl rfl rfl) (show (v4 4).toInt = 0 from by omega) (show 1 ≤ (v4 33).toInt from by omega) (show (v4 30).toInt + (v4 29).toInt = 1 from by rw [(show v4 30 = (v 30) from (hV_4 30 (by decide))), (show v4 29 = (v 29) from (hV_4 29 (by decide)))]; omega)) (cwV 0 ht (gv k_276 k_277 k_278 k_61 k_275) rfl rfl rfl (by decide +kernel) ⟨Nat.le_of_ble_eq_true rfl, Nat.le_of_ble_eq_true rfl⟩) ⟨En.blind, va_recv hK hP (ci := 12) (q0 := 0) rfl rfl, fun U hU hW => ⟨rfl, En.of hU hW hP hK hD hN⟩⟩ rfl rfl hl.1 rfl (lv_room (Nat.le_of_ble_eq_true rfl)) dX12_e_45 ⟨Nat.le_of_ble_eq_true rfl, Nat.le_of_ble_eq_true rfl⟩) hS (fun q _ h => hFc q h) hFc (fun r_u_15 u_15 t9 H locs ht9 hvm hw hB hz1 hk1 hS => ?_)
            obtain ⟨v15, nm15, f15, g15⟩ := u_15
            obtain ⟨hP1, hD1⟩ := hB
            rw [ht9] at hP1
            obtain ⟨hv, hf, hR, hL, xu_15V, xu_15F, wu_15, xu_15_M, xu_15_E, xu_15_O⟩ := hw
            have hP : va_P G vwCl (WMs cy mo h v15 nm15 f15 g15) H := hP1
            have hD : va_D A (WMs cy mo h v15 nm15 f15 g15) := hD1.weaken (fun _ _ _ h => hFc _ h)
            dsimp only at hv hf hR hL wu_15 xu_15V xu_15F xu_15_M xu_15_E xu_15_O
            clear hFc hk1 hz1 hP1 hD1
            replace hV_0 := FV.tr hV_0 xu_15V (by decide)
            replace hF_0 := FF.tr hF_0 xu_15F (by decide)
            replace hW_4 := FV.tr hW_4 xu_15V (by decide)
            replace hY_4 := FF.tr hY_4 xu_15F (by decide)
            replace wu_15 : (r_u_15.toInt = 0 ∨ r_u_15.toInt = 1) ∧ ((v15 7).toInt ≤ (v 3).toInt) := by
              have h9 : (r_u_15.toInt = 0 ∨ r_u_15.toInt = 1) ∧ ((v15 7).toInt ≤ (v4 3).toInt) := wu_15
              rw [(show v4 3 = (v 3) from (hV_4 3 (by decide)))] at h9
              exact h9
            replace xu_15_M : 0 ≤ mz (v 3).toInt (v15 7).toInt (v15 8).toInt ∧ mz (v 3).toInt (v15 7).toInt (v15 8).toInt ≤ mz (v 3).toInt (v4 7).toInt (v4 8).toInt ∧ ((v15 4).toInt ≠ 0 ∨ mz (v 3).toInt (v15 7).toInt (v15 8).toInt < mz (v 3).toInt (v4 7).toInt (v4 8).toInt ∨ (v15 33).toInt < (v4 33).toInt) := by
              have h9 : 0 ≤ mz (v4 3).toInt (v15 7).toInt (v15 8).toInt ∧ mz (v4 3).toInt (v15 7).toInt (v15 8).toInt ≤ mz (v4 3).toInt (v4 7).toInt (v4 8).toInt ∧ ((v15 4).toInt ≠ 0 ∨ mz (v4 3).toInt (v15 7).toInt (v15 8).toInt < mz (v4 3).toInt (v4 7).toInt (v4 8).toInt ∨ (v15 33).toInt < (v4 33).toInt) := xu_15_M
              rw [(show v4 3 = (v 3) from (hV_4 3 (by decide)))] at h9
              exact h9
            replace xu_15_E : (v15 4).toInt = 0 → EI r_u_15.toInt (v 30).toInt ((v 31).toInt) (v15 31).toInt (v15 33).toInt (v15 32).toInt ((f4 13) (Int32.toNatClampNeg (v 30))).toInt (f15 26) (f15 27) (f15 24) (f15 25) := by
              have h9 : (v15 4).toInt = 0 → EI r_u_15.toInt (v4 30).toInt ((v 31).toInt) (v15 31).toInt (v15 33).toInt (v15 32).toInt ((f4 13) (Int32.toNatClampNeg (v4 30))).toInt (f15 26) (f15 27) (f15 24) (f15 25) := xu_15_E
              rw [(show v4 30 = (v 30) from (hV_4 30 (by decide)))] at h9
              exact h9
            replace xu_15_O : OUT ((v 31).toInt) (600 * (v 30).toInt + 600) (f4 24) (f4 25) (f15 24) (f15 25) := by
              have h9 : OUT ((v 31).toInt) (600 * (v4 30).toInt + 600) (f4 24) (f4 25) (f15 24) (f15 25) := xu_15_O
              rw [(show v4 30 = (v 30) from (hV_4 30 (by decide)))] at h9
              exact h9
            refine lv_istore_n (lv' := [(1, .int r_u_15), (0, .ref mo)]) hx hb dX12_e_48 rfl hl (by decide) rfl (fun ls hl => ?_)
            refine lv_goto (tgt := 19) hx hb dX12_e_49 (by decide) ?_
            refine W.widen (k := 0) (n := 0) (Nat.le_of_ble_eq_true rfl) (Nat.le_of_ble_eq_true rfl) ?_
            exact ih_4 r_u_15 v15 nm15 f15 g15 _ _ _ hv hf hR hL hW_4 hY_4 (by omega) (show (v15 7).toInt ≤ (v 3).toInt ∧ ((v15 4).toInt ≠ 0 ∨ (v 4).toInt = 0) ∧ 0 ≤ mz (v 3).toInt (v15 7).toInt (v15 8).toInt ∧ mz (v 3).toInt (v15 7).toInt (v15 8).toInt ≤ mz (v 3).toInt (v 7).toInt (v 8).toInt from by omega) (show (v15 4).toInt = 0 → EI r_u_15.toInt (v 30).toInt (v 31).toInt (v15 31).toInt (v15 33).toInt (v15 32).toInt ((f15 13) (Int32.toNatClampNeg (v 30))).toInt (f15 26) (f15 27) (f15 24) (f15 25) from by rw [(show f15 13 = (f4 13) from (xu_15F 13 (by decide)))]; exact xu_15_E) (show OUT (v 31).toInt (600 * (v 30).toInt + 600) (f 24) (f 25) (f15 24) (f15 25) from by exact OUT.tr qf4_3 xu_15_O) (show tkm (200 * mz (v 3).toInt (v15 7).toInt (v15 8).toInt + (v15 33).toInt) (v15 4).toInt < N_4 from by have h33 : 0 ≤ (v15 33).toInt ∧ (v15 33).toInt ≤ 120 := hv 33; have h9 : tkm (200 * mz (v 3).toInt (v15 7).toInt (v15 8).toInt + (v15 33).toInt) (v15 4).toInt < tkm (200 * mz (v 3).toInt (v4 7).toInt (v4 8).toInt + (v4 33).toInt) (v4 4).toInt := tkm_lt (by omega) (by omega); omega) hP hD hS (lv_sub hl [0, 1] rfl)
          · have q_16 : ¬ x1_4.toInt = (0 : Int32).toInt := by have := (not_congr (ow_eq _ _)).mp c_13; omega
            refine lv_aload_n hx hb dX12_e_37 rfl (lv_at hl 1 rfl) ?_
            have hFc := fr_free hD hS hA
            refine va_calli (va_runV (As := []) (rest := []) ⟨hx, hb, hml, hown, ht⟩ (m_unit l G cy _ mo h T v4 nm4 f4 g4  ((v 31).toInt) hv hf hR hL (show (v4 7).toInt ≤ (v4 3).toInt from by rw [(show v4 3 = (v 3) from (hV_4 3 (by decide)))]; omega) (show EI 1 (v4 30).toInt (v 31).toInt (v4 31).toInt (v4 33).toInt (v4 32).toInt ((f4 13) (Int32.toNatClampNeg (v4 30))).toInt (f4 26) (f4 27) (f4 24) (f4 25) from by rw [(show v4 30 = (v 30) from (hV_4 30 (by decide)))]; exact EI.cast (qf4_2 (by omega)) (by omega) rfl rfl rfl rfl) (show (v4 4).toInt = 0 from by omega) (show 1 ≤ (v4 33).toInt from by omega) (show (v4 30).toInt + (v4 29).toInt = 1 from by rw [(show v4 30 = (v 30) from (hV_4 30 (by decide))), (show v4 29 = (v 29) from (hV_4 29 (by decide)))]; omega)) (cwV 0 ht (gv k_280 k_281 k_282 k_61 k_279) rfl rfl rfl (by decide +kernel) ⟨Nat.le_of_ble_eq_true rfl, Nat.le_of_ble_eq_true rfl⟩) ⟨En.blind, va_recv hK hP (ci := 12) (q0 := 0) rfl rfl, fun U hU hW => ⟨rfl, En.of hU hW hP hK hD hN⟩⟩ rfl rfl hl.1 rfl (lv_room (Nat.le_of_ble_eq_true rfl)) dX12_e_38 ⟨Nat.le_of_ble_eq_true rfl, Nat.le_of_ble_eq_true rfl⟩) hS (fun q _ h => hFc q h) hFc (fun r_u_17 u_17 t9 H locs ht9 hvm hw hB hz1 hk1 hS => ?_)
            obtain ⟨v17, nm17, f17, g17⟩ := u_17
            obtain ⟨hP1, hD1⟩ := hB
            rw [ht9] at hP1
            obtain ⟨hv, hf, hR, hL, xu_17V, xu_17F, wu_17, xu_17_M, xu_17_E, xu_17_O⟩ := hw
            have hP : va_P G vwCl (WMs cy mo h v17 nm17 f17 g17) H := hP1
            have hD : va_D A (WMs cy mo h v17 nm17 f17 g17) := hD1.weaken (fun _ _ _ h => hFc _ h)
            dsimp only at hv hf hR hL wu_17 xu_17V xu_17F xu_17_M xu_17_E xu_17_O
            clear hFc hk1 hz1 hP1 hD1
            replace hV_0 := FV.tr hV_0 xu_17V (by decide)
            replace hF_0 := FF.tr hF_0 xu_17F (by decide)
            replace hW_4 := FV.tr hW_4 xu_17V (by decide)
            replace hY_4 := FF.tr hY_4 xu_17F (by decide)
            replace wu_17 : (r_u_17.toInt = 0 ∨ r_u_17.toInt = 1) ∧ ((v17 7).toInt ≤ (v 3).toInt) := by
              have h9 : (r_u_17.toInt = 0 ∨ r_u_17.toInt = 1) ∧ ((v17 7).toInt ≤ (v4 3).toInt) := wu_17
              rw [(show v4 3 = (v 3) from (hV_4 3 (by decide)))] at h9
              exact h9
            replace xu_17_M : 0 ≤ mz (v 3).toInt (v17 7).toInt (v17 8).toInt ∧ mz (v 3).toInt (v17 7).toInt (v17 8).toInt ≤ mz (v 3).toInt (v4 7).toInt (v4 8).toInt ∧ ((v17 4).toInt ≠ 0 ∨ mz (v 3).toInt (v17 7).toInt (v17 8).toInt < mz (v 3).toInt (v4 7).toInt (v4 8).toInt) := by
              have h9 : 0 ≤ mz (v4 3).toInt (v17 7).toInt (v17 8).toInt ∧ mz (v4 3).toInt (v17 7).toInt (v17 8).toInt ≤ mz (v4 3).toInt (v4 7).toInt (v4 8).toInt ∧ ((v17 4).toInt ≠ 0 ∨ mz (v4 3).toInt (v17 7).toInt (v17 8).toInt < mz (v4 3).toInt (v4 7).toInt (v4 8).toInt) := xu_17_M
              rw [(show v4 3 = (v 3) from (hV_4 3 (by decide)))] at h9
              exact h9
            replace xu_17_E : (v17 4).toInt = 0 → EI r_u_17.toInt (v 30).toInt ((v 31).toInt) (v17 31).toInt (v17 33).toInt (v17 32).toInt ((f17 13) (Int32.toNatClampNeg (v 30))).toInt (f17 26) (f17 27) (f17 24) (f17 25) := by
              have h9 : (v17 4).toInt = 0 → EI r_u_17.toInt (v4 30).toInt ((v 31).toInt) (v17 31).toInt (v17 33).toInt (v17 32).toInt ((f17 13) (Int32.toNatClampNeg (v4 30))).toInt (f17 26) (f17 27) (f17 24) (f17 25) := xu_17_E
              rw [(show v4 30 = (v 30) from (hV_4 30 (by decide)))] at h9
              exact h9
            replace xu_17_O : OUT ((v 31).toInt) (600 * (v 30).toInt + 600) (f4 24) (f4 25) (f17 24) (f17 25) := by
              have h9 : OUT ((v 31).toInt) (600 * (v4 30).toInt + 600) (f4 24) (f4 25) (f17 24) (f17 25) := xu_17_O
              rw [(show v4 30 = (v 30) from (hV_4 30 (by decide)))] at h9
              exact h9
            refine lv_goto (tgt := 48) hx hb dX12_e_41 (by decide) ?_
            refine lv_istore_n (lv' := [(1, .int r_u_17), (0, .ref mo)]) hx hb dX12_e_48 rfl hl (by decide) rfl (fun ls hl => ?_)
            refine lv_goto (tgt := 19) hx hb dX12_e_49 (by decide) ?_
            refine W.widen (k := 0) (n := 0) (Nat.le_of_ble_eq_true rfl) (Nat.le_of_ble_eq_true rfl) ?_
            exact ih_4 r_u_17 v17 nm17 f17 g17 _ _ _ hv hf hR hL hW_4 hY_4 (by omega) (show (v17 7).toInt ≤ (v 3).toInt ∧ ((v17 4).toInt ≠ 0 ∨ (v 4).toInt = 0) ∧ 0 ≤ mz (v 3).toInt (v17 7).toInt (v17 8).toInt ∧ mz (v 3).toInt (v17 7).toInt (v17 8).toInt ≤ mz (v 3).toInt (v 7).toInt (v 8).toInt from by omega) (show (v17 4).toInt = 0 → EI r_u_17.toInt (v 30).toInt (v 31).toInt (v17 31).toInt (v17 33).toInt (v17 32).toInt ((f17 13) (Int32.toNatClampNeg (v 30))).toInt (f17 26) (f17 27) (f17 24) (f17 25) from by exact xu_17_E) (show OUT (v 31).toInt (600 * (v 30).toInt + 600) (f 24) (f 25) (f17 24) (f17 25) from by exact OUT.tr qf4_3 xu_17_O) (show tkm (200 * mz (v 3).toInt (v17 7).toInt (v17 8).toInt + (v17 33).toInt) (v17 4).toInt < N_4 from by have h33 : 0 ≤ (v17 33).toInt ∧ (v17 33).toInt ≤ 120 := hv 33; have h9 : tkm (200 * mz (v 3).toInt (v17 7).toInt (v17 8).toInt + (v17 33).toInt) (v17 4).toInt < tkm (200 * mz (v 3).toInt (v4 7).toInt (v4 8).toInt + (v4 33).toInt) (v4 4).toInt := tkm_lt (by omega) (by omega); omega) hP hD hS (lv_sub hl [0, 1] rfl)
  exact lp_4 _ (1) (va_up (va_up (va_up v 33 0) 32 0) 33 ((0 : Int32) + 1)) nm (va_up (va_up f 26 (upd (f 26) (Int32.toNatClampNeg (0 : Int32)) (7 : Int32))) 27 (upd ((va_up f 26 (upd (f 26) (Int32.toNatClampNeg (0 : Int32)) (7 : Int32))) 27) (Int32.toNatClampNeg (0 : Int32)) (0 : Int32))) g _ _ _ hv hf hR hL FV.rf FF.rf (by omega) (show (v 7).toInt ≤ (v 3).toInt ∧ ((v 4).toInt ≠ 0 ∨ (v 4).toInt = 0) ∧ 0 ≤ mz (v 3).toInt (v 7).toInt (v 8).toInt ∧ mz (v 3).toInt (v 7).toInt (v 8).toInt ≤ mz (v 3).toInt (v 7).toInt (v 8).toInt from by omega) (show (v 4).toInt = 0 → EI (1 : Int32).toInt (v 30).toInt (v 31).toInt (v 31).toInt ((0 : Int32) + 1).toInt (0 : Int32).toInt ((f 13) (Int32.toNatClampNeg (v 30))).toInt (upd (f 26) (Int32.toNatClampNeg (0 : Int32)) (7 : Int32)) (upd (f 27) (Int32.toNatClampNeg (0 : Int32)) (0 : Int32)) (f 24) (f 25) from by exact fun h9 => EI.cast (EI.init (by omega) (by omega) (by omega) (by omega) (by omega)) (by omega) rfl (by omega) (by omega) rfl) OUT.rf (Nat.lt_succ_self _) hP hD hS (lv_sub hl [0, 1] rfl)
