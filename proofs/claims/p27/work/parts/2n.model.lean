theorem k_291 : (Cond.code yX12_e cX12_e 2 none) ∈ TBg := tb_mem 1286 (by decide +kernel) (by decide +kernel)
theorem k_292 : (Cond.methodLink RX12 281 yX12_e) ∈ TBg := tb_mem 1283 (by decide +kernel) (by decide +kernel)
theorem k_293 : (Cond.instanceMethod yX12_e) ∈ TBg := tb_mem 1285 (by decide +kernel) (by decide +kernel)
theorem k_294 : (Cond.selects RX12 yX12_e yX12_e) ∈ TBg := tb_mem 47 (by decide +kernel) (by decide +kernel)
theorem k_295 : (Cond.code yX12_isFull cX12_isFull 1 (some .boolean)) ∈ TBg := tb_mem 1242 (by decide +kernel) (by decide +kernel)
theorem k_296 : (Cond.methodLink RX12 246 yX12_isFull) ∈ TBg := tb_mem 1239 (by decide +kernel) (by decide +kernel)
theorem k_297 : (Cond.instanceMethod yX12_isFull) ∈ TBg := tb_mem 1241 (by decide +kernel) (by decide +kernel)
theorem k_298 : (Cond.selects RX12 yX12_isFull yX12_isFull) ∈ TBg := tb_mem 36 (by decide +kernel) (by decide +kernel)
theorem k_299 : (Cond.code yX12_readSweet cX12_readSweet 4 none) ∈ TBg := tb_mem 1322 (by decide +kernel) (by decide +kernel)
theorem k_300 : (Cond.methodLink RX12 255 yX12_readSweet) ∈ TBg := tb_mem 1319 (by decide +kernel) (by decide +kernel)
theorem k_301 : (Cond.instanceMethod yX12_readSweet) ∈ TBg := tb_mem 1321 (by decide +kernel) (by decide +kernel)
theorem k_302 : (Cond.selects RX12 yX12_readSweet yX12_readSweet) ∈ TBg := tb_mem 56 (by decide +kernel) (by decide +kernel)
theorem k_303 : (Cond.code yX12_readLock cX12_readLock 4 none) ∈ TBg := tb_mem 1282 (by decide +kernel) (by decide +kernel)
theorem k_304 : (Cond.methodLink RX12 252 yX12_readLock) ∈ TBg := tb_mem 1279 (by decide +kernel) (by decide +kernel)
theorem k_305 : (Cond.instanceMethod yX12_readLock) ∈ TBg := tb_mem 1281 (by decide +kernel) (by decide +kernel)
theorem k_306 : (Cond.selects RX12 yX12_readLock yX12_readLock) ∈ TBg := tb_mem 46 (by decide +kernel) (by decide +kernel)
theorem k_307 : (Cond.code yX12_readTune cX12_readTune 6 none) ∈ TBg := tb_mem 1258 (by decide +kernel) (by decide +kernel)
theorem k_308 : (Cond.methodLink RX12 249 yX12_readTune) ∈ TBg := tb_mem 1255 (by decide +kernel) (by decide +kernel)
theorem k_309 : (Cond.instanceMethod yX12_readTune) ∈ TBg := tb_mem 1257 (by decide +kernel) (by decide +kernel)
theorem k_310 : (Cond.selects RX12 yX12_readTune yX12_readTune) ∈ TBg := tb_mem 40 (by decide +kernel) (by decide +kernel)
theorem dX12_readLock_0 : decode cX12_readLock 0 = .ok (.bipush 8, 2) := by decide +kernel
theorem dX12_readLock_2 : decode cX12_readLock 2 = .ok (.aload_n 0, 1) := by decide +kernel
theorem dX12_readLock_3 : decode cX12_readLock 3 = .ok (.getfield 218, 3) := by decide +kernel
theorem dX12_readLock_6 : decode cX12_readLock 6 = .ok (.imul, 1) := by decide +kernel
theorem dX12_readLock_7 : decode cX12_readLock 7 = .ok (.aload_n 0, 1) := by decide +kernel
theorem dX12_readLock_8 : decode cX12_readLock 8 = .ok (.getfield 24, 3) := by decide +kernel
theorem dX12_readLock_11 : decode cX12_readLock 11 = .ok (.aload_n 0, 1) := by decide +kernel
theorem dX12_readLock_12 : decode cX12_readLock 12 = .ok (.getfield 218, 3) := by decide +kernel
theorem dX12_readLock_15 : decode cX12_readLock 15 = .ok (.iaload, 1) := by decide +kernel
theorem dX12_readLock_16 : decode cX12_readLock 16 = .ok (.iadd, 1) := by decide +kernel
theorem dX12_readLock_17 : decode cX12_readLock 17 = .ok (.istore_n 1, 1) := by decide +kernel
theorem dX12_readLock_18 : decode cX12_readLock 18 = .ok (.aload_n 0, 1) := by decide +kernel
theorem dX12_readLock_19 : decode cX12_readLock 19 = .ok (.aload_n 0, 1) := by decide +kernel
theorem dX12_readLock_20 : decode cX12_readLock 20 = .ok (.aload_n 0, 1) := by decide +kernel
theorem dX12_readLock_21 : decode cX12_readLock 21 = .ok (.getfield 59, 3) := by decide +kernel
theorem dX12_readLock_24 : decode cX12_readLock 24 = .ok (.bipush 8, 2) := by decide +kernel
theorem dX12_readLock_26 : decode cX12_readLock 26 = .ok (.aload_n 0, 1) := by decide +kernel
theorem dX12_readLock_27 : decode cX12_readLock 27 = .ok (.getfield 218, 3) := by decide +kernel
theorem dX12_readLock_30 : decode cX12_readLock 30 = .ok (.imul, 1) := by decide +kernel
theorem dX12_readLock_31 : decode cX12_readLock 31 = .ok (.aload_n 0, 1) := by decide +kernel
theorem dX12_readLock_32 : decode cX12_readLock 32 = .ok (.getfield 24, 3) := by decide +kernel
theorem dX12_readLock_35 : decode cX12_readLock 35 = .ok (.aload_n 0, 1) := by decide +kernel
theorem dX12_readLock_36 : decode cX12_readLock 36 = .ok (.getfield 218, 3) := by decide +kernel
theorem dX12_readLock_39 : decode cX12_readLock 39 = .ok (.iaload, 1) := by decide +kernel
theorem dX12_readLock_40 : decode cX12_readLock 40 = .ok (.invokevirtual 265, 3) := by decide +kernel
theorem dX12_readLock_51 : decode cX12_readLock 51 = .ok (.invokevirtual 273, 3) := by decide +kernel
theorem dX12_readLock_54 : decode cX12_readLock 54 = .ok (.lstore_n 2, 1) := by decide +kernel
theorem dX12_readLock_55 : decode cX12_readLock 55 = .ok (.aload_n 0, 1) := by decide +kernel
theorem dX12_readLock_56 : decode cX12_readLock 56 = .ok (.aload_n 0, 1) := by decide +kernel
theorem dX12_readLock_57 : decode cX12_readLock 57 = .ok (.ldc2_w 146, 3) := by decide +kernel
theorem dX12_readLock_60 : decode cX12_readLock 60 = .ok (.invokevirtual 243, 3) := by decide +kernel
theorem dX12_readLock_63 : decode cX12_readLock 63 = .ok (.invokevirtual 261, 3) := by decide +kernel
theorem dX12_readLock_66 : decode cX12_readLock 66 = .ok (.aload_n 0, 1) := by decide +kernel
theorem dX12_readLock_67 : decode cX12_readLock 67 = .ok (.getfield 42, 3) := by decide +kernel
theorem dX12_readLock_70 : decode cX12_readLock 70 = .ok (.iload_n 1, 1) := by decide +kernel
theorem dX12_readLock_71 : decode cX12_readLock 71 = .ok (.aload_n 0, 1) := by decide +kernel
theorem dX12_readLock_72 : decode cX12_readLock 72 = .ok (.iconst 0, 1) := by decide +kernel
theorem dX12_readLock_73 : decode cX12_readLock 73 = .ok (.bipush 20, 2) := by decide +kernel
theorem dX12_readLock_75 : decode cX12_readLock 75 = .ok (.invokevirtual 277, 3) := by decide +kernel
theorem dX12_readLock_78 : decode cX12_readLock 78 = .ok (.iastore, 1) := by decide +kernel
theorem dX12_readLock_79 : decode cX12_readLock 79 = .ok (.aload_n 0, 1) := by decide +kernel
theorem dX12_readLock_80 : decode cX12_readLock 80 = .ok (.aload_n 0, 1) := by decide +kernel
theorem dX12_readLock_81 : decode cX12_readLock 81 = .ok (.ldc2_w 148, 3) := by decide +kernel
theorem dX12_readLock_84 : decode cX12_readLock 84 = .ok (.invokevirtual 243, 3) := by decide +kernel
theorem dX12_readLock_87 : decode cX12_readLock 87 = .ok (.invokevirtual 261, 3) := by decide +kernel
theorem dX12_readLock_90 : decode cX12_readLock 90 = .ok (.aload_n 0, 1) := by decide +kernel
theorem dX12_readLock_91 : decode cX12_readLock 91 = .ok (.getfield 45, 3) := by decide +kernel
theorem dX12_readLock_94 : decode cX12_readLock 94 = .ok (.iload_n 1, 1) := by decide +kernel
theorem dX12_readLock_95 : decode cX12_readLock 95 = .ok (.aload_n 0, 1) := by decide +kernel
theorem dX12_readLock_96 : decode cX12_readLock 96 = .ok (.getfield 221, 3) := by decide +kernel
theorem dX12_readLock_99 : decode cX12_readLock 99 = .ok (.iastore, 1) := by decide +kernel
theorem dX12_readLock_100 : decode cX12_readLock 100 = .ok (.aload_n 0, 1) := by decide +kernel
theorem dX12_readLock_101 : decode cX12_readLock 101 = .ok (.invokevirtual 281, 3) := by decide +kernel
theorem dX12_readLock_104 : decode cX12_readLock 104 = .ok (.aload_n 0, 1) := by decide +kernel
theorem dX12_readLock_105 : decode cX12_readLock 105 = .ok (.getfield 48, 3) := by decide +kernel
theorem dX12_readLock_108 : decode cX12_readLock 108 = .ok (.iload_n 1, 1) := by decide +kernel
theorem dX12_readLock_109 : decode cX12_readLock 109 = .ok (.aload_n 0, 1) := by decide +kernel
theorem dX12_readLock_110 : decode cX12_readLock 110 = .ok (.getfield 221, 3) := by decide +kernel
theorem dX12_readLock_113 : decode cX12_readLock 113 = .ok (.iastore, 1) := by decide +kernel
theorem dX12_readLock_114 : decode cX12_readLock 114 = .ok (.aload_n 0, 1) := by decide +kernel
theorem dX12_readLock_115 : decode cX12_readLock 115 = .ok (.getfield 59, 3) := by decide +kernel
theorem dX12_readLock_118 : decode cX12_readLock 118 = .ok (.iload_n 1, 1) := by decide +kernel
theorem dX12_readLock_119 : decode cX12_readLock 119 = .ok (.lload_n 2, 1) := by decide +kernel
theorem dX12_readLock_120 : decode cX12_readLock 120 = .ok (.lastore, 1) := by decide +kernel
theorem dX12_readLock_121 : decode cX12_readLock 121 = .ok (.aload_n 0, 1) := by decide +kernel
theorem dX12_readLock_122 : decode cX12_readLock 122 = .ok (.getfield 24, 3) := by decide +kernel
theorem dX12_readLock_125 : decode cX12_readLock 125 = .ok (.aload_n 0, 1) := by decide +kernel
theorem dX12_readLock_126 : decode cX12_readLock 126 = .ok (.getfield 218, 3) := by decide +kernel
theorem dX12_readLock_129 : decode cX12_readLock 129 = .ok (.dup2, 1) := by decide +kernel
theorem dX12_readLock_130 : decode cX12_readLock 130 = .ok (.iaload, 1) := by decide +kernel
theorem dX12_readLock_131 : decode cX12_readLock 131 = .ok (.iconst 1, 1) := by decide +kernel
theorem dX12_readLock_132 : decode cX12_readLock 132 = .ok (.iadd, 1) := by decide +kernel
theorem dX12_readLock_133 : decode cX12_readLock 133 = .ok (.iastore, 1) := by decide +kernel
theorem dX12_readLock_134 : decode cX12_readLock 134 = .ok (.return_, 1) := by decide +kernel
theorem dX12_readLock_43 : decode cX12_readLock 43 = .ok (.ifCond .lt 7, 3) := by decide +kernel
theorem dX12_readLock_50 : decode cX12_readLock 50 = .ok (.iconst 0, 1) := by decide +kernel
theorem dX12_readLock_46 : decode cX12_readLock 46 = .ok (.iconst 1, 1) := by decide +kernel
theorem dX12_readLock_47 : decode cX12_readLock 47 = .ok (.goto 4, 3) := by decide +kernel
theorem dX12_readLine_0 : decode cX12_readLine 0 = .ok (.aload_n 0, 1) := by decide +kernel
theorem dX12_readLine_1 : decode cX12_readLine 1 = .ok (.getfield 187, 3) := by decide +kernel
theorem dX12_readLine_4 : decode cX12_readLine 4 = .ok (.lstore_n 1, 1) := by decide +kernel
theorem dX12_readLine_5 : decode cX12_readLine 5 = .ok (.aload_n 0, 1) := by decide +kernel
theorem dX12_readLine_6 : decode cX12_readLine 6 = .ok (.getfield 180, 3) := by decide +kernel
theorem dX12_readLine_9 : decode cX12_readLine 9 = .ok (.iconst 3, 1) := by decide +kernel
theorem dX12_readLine_10 : decode cX12_readLine 10 = .ok (.if_icmp .ne 10, 3) := by decide +kernel
theorem dX12_readLine_20 : decode cX12_readLine 20 = .ok (.aload_n 0, 1) := by decide +kernel
theorem dX12_readLine_21 : decode cX12_readLine 21 = .ok (.invokevirtual 215, 3) := by decide +kernel
theorem dX12_readLine_24 : decode cX12_readLine 24 = .ok (.aload_n 0, 1) := by decide +kernel
theorem dX12_readLine_25 : decode cX12_readLine 25 = .ok (.invokevirtual 208, 3) := by decide +kernel
theorem dX12_readLine_28 : decode cX12_readLine 28 = .ok (.ifCond .ne 4, 3) := by decide +kernel
theorem dX12_readLine_31 : decode cX12_readLine 31 = .ok (.return_, 1) := by decide +kernel
theorem dX12_readLine_13 : decode cX12_readLine 13 = .ok (.aload_n 0, 1) := by decide +kernel
theorem dX12_readLine_14 : decode cX12_readLine 14 = .ok (.invokevirtual 246, 3) := by decide +kernel
theorem dX12_readLine_17 : decode cX12_readLine 17 = .ok (.ifCond .eq 7, 3) := by decide +kernel
theorem dX12_readLine_32 : decode cX12_readLine 32 = .ok (.aload_n 0, 1) := by decide +kernel
theorem dX12_readLine_33 : decode cX12_readLine 33 = .ok (.invokevirtual 212, 3) := by decide +kernel
theorem dX12_readLine_36 : decode cX12_readLine 36 = .ok (.lload_n 1, 1) := by decide +kernel
theorem dX12_readLine_37 : decode cX12_readLine 37 = .ok (.ldc2_w 140, 3) := by decide +kernel
theorem dX12_readLine_40 : decode cX12_readLine 40 = .ok (.lcmp, 1) := by decide +kernel
theorem dX12_readLine_41 : decode cX12_readLine 41 = .ok (.ifCond .ne 7, 3) := by decide +kernel
theorem dX12_readLine_48 : decode cX12_readLine 48 = .ok (.lload_n 1, 1) := by decide +kernel
theorem dX12_readLine_49 : decode cX12_readLine 49 = .ok (.ldc2_w 144, 3) := by decide +kernel
theorem dX12_readLine_52 : decode cX12_readLine 52 = .ok (.lcmp, 1) := by decide +kernel
theorem dX12_readLine_53 : decode cX12_readLine 53 = .ok (.ifCond .ne 7, 3) := by decide +kernel
theorem dX12_readLine_60 : decode cX12_readLine 60 = .ok (.lload_n 1, 1) := by decide +kernel
theorem dX12_readLine_61 : decode cX12_readLine 61 = .ok (.ldc2_w 150, 3) := by decide +kernel
theorem dX12_readLine_64 : decode cX12_readLine 64 = .ok (.lcmp, 1) := by decide +kernel
theorem dX12_readLine_65 : decode cX12_readLine 65 = .ok (.ifCond .ne 7, 3) := by decide +kernel
theorem dX12_readLine_72 : decode cX12_readLine 72 = .ok (.aload_n 0, 1) := by decide +kernel
theorem dX12_readLine_73 : decode cX12_readLine 73 = .ok (.aload_n 0, 1) := by decide +kernel
theorem dX12_readLine_74 : decode cX12_readLine 74 = .ok (.bipush 59, 2) := by decide +kernel
theorem dX12_readLine_76 : decode cX12_readLine 76 = .ok (.invokevirtual 258, 3) := by decide +kernel
theorem dX12_readLine_79 : decode cX12_readLine 79 = .ok (.invokevirtual 261, 3) := by decide +kernel
theorem dX12_readLine_82 : decode cX12_readLine 82 = .ok (.return_, 1) := by decide +kernel
theorem dX12_readLine_68 : decode cX12_readLine 68 = .ok (.aload_n 0, 1) := by decide +kernel
theorem dX12_readLine_69 : decode cX12_readLine 69 = .ok (.invokevirtual 255, 3) := by decide +kernel
theorem dX12_readLine_56 : decode cX12_readLine 56 = .ok (.aload_n 0, 1) := by decide +kernel
theorem dX12_readLine_57 : decode cX12_readLine 57 = .ok (.invokevirtual 252, 3) := by decide +kernel
theorem dX12_readLine_44 : decode cX12_readLine 44 = .ok (.aload_n 0, 1) := by decide +kernel
theorem dX12_readLine_45 : decode cX12_readLine 45 = .ok (.invokevirtual 249, 3) := by decide +kernel
set_option maxHeartbeats 4000000 in
set_option maxRecDepth 100000 in
theorem m_readLock (l : Launch) (G : va_G) (cy : Nat → ClassId) (sz : Nat) (mo : Nat) (h : Nat → Nat) (T : Int) (v : Nat → Int32) (nm : Int64) (f : Nat → Nat → Int32) (g : Nat → Nat → Int64)   (hv : MIv T v) (hf : MIf f) (hR : RI v f) (hL : WL v f) (he : (v 7).toInt ≤ (v 3).toInt) (hrb : (v 30).toInt + (v 29).toInt = 1) (hl9 : (f 12 (Int32.toNatClampNeg (v 30))).toInt ≤ 7) (hPB : PB (v 30).toInt (v 31).toInt (f 13 (Int32.toNatClampNeg (v 30))).toInt (f 12) (f 19) (f 20) (f 24) (f 25) (Int32.toNatClampNeg (v 30))) : Met l yX12_readLock (.code yX12_readLock cX12_readLock 4 none :: TBg) ({ frames := 6, cells := 0, slots := 0, locals := 384 }) (va_Pc [.ref mo] (En G cy (WMs cy mo h v nm f g) sz)) (va_Qv (fun (u : (Nat → Int32) × Int64 × (Nat → Nat → Int32) × (Nat → Nat → Int64)) => MIv T u.1 ∧ MIf u.2.2.1 ∧ RI u.1 u.2.2.1 ∧ WL u.1 u.2.2.1 ∧ FV [4, 5, 6, 7, 8, 9, 31, 32, 33] v u.1 ∧ FF [12, 13, 18, 19, 20, 24, 25, 26, 27] f u.2.2.1 ∧ (((u.1 7).toInt ≤ (v 3).toInt ∧ ((u.1 4).toInt ≠ 0 ∨ (v 4).toInt = 0))) ∧ (0 ≤ mz (v 3).toInt (u.1 7).toInt (u.1 8).toInt ∧ mz (v 3).toInt (u.1 7).toInt (u.1 8).toInt ≤ mz (v 3).toInt (v 7).toInt (v 8).toInt) ∧ ((u.1 4).toInt = 0 → PB (v 30).toInt (u.1 31).toInt (u.2.2.1 13 (Int32.toNatClampNeg (v 30))).toInt (u.2.2.1 12) (u.2.2.1 19) (u.2.2.1 20) (u.2.2.1 24) (u.2.2.1 25) (Int32.toNatClampNeg (v 30)))) (fun u t => Ex G (va_A (WMs cy mo h v nm f g) sz) (WMs cy mo h u.1 u.2.1 u.2.2.1 u.2.2.2) t) (va_A (WMs cy mo h v nm f g) sz)) 0 0 (va_A (WMs cy mo h v nm f g) sz) := by
  refine Met.ofW (cc := cX12_readLock) (maxL := 4) (ret := none) (by decide) rfl ?_
  intro p e s m args below meth c s₁ B hml hv9
  obtain ⟨rfl, hsz, hP, hK, hD0, hN⟩ := hv9
  have hx := B.exec
  have hb := B.bytes
  have hr := B.returns
  have hts := atoms_spec (ws := .code yX12_readLock cX12_readLock 4 none :: TBg) B.pre
  have ht : ∀ w ∈ TBg, w.before _ s = true := fun w h => hts w (List.mem_cons_of_mem _ h)
  have hown : s.vm.findClass RX12 = some m.cls := findClass_of_methodNamed B.named
  have hlocks := B.notSynchronized
  subst hsz
  have hD := hD0.self (sz := s.heap.size)
  generalize hAe : va_A (WMs cy mo h v nm f g) s.heap.size = A at hD ⊢
  have hA : ∀ q : Nat, s.heap.size ≤ q → A q := fun q h => by rw [← hAe]; exact Or.inr h
  have hS : va_S A s.heap s.heap [] := va_S.rf
  have hl := lv_entry ([.ref mo]) (n := 4) (Nat.le_of_ble_eq_true rfl)
  rw [lg_entry_eq]
  generalize (lg_sl ([.ref mo]) ++ List.replicate (4 - (lg_sl ([.ref mo])).length) Slot.unset).toArray = ls at hl ⊢
  have hl : lv_has ls 4 [(0, .ref mo)] := hl
  have z0 : (0 : Int32).toInt = 0 := by decide
  have z1 : (1 : Int32).toInt = 1 := by decide
  have z2 : (8 : Int32).toInt = 8 := by decide
  have z3 : (20 : Int32).toInt = 20 := by decide
  have hf_0 := hf
  have hV_0 : FV [4, 5, 6, 7, 8, 9, 31, 32, 33] v v := FV.rf
  have hF_0 : FF [12, 13, 18, 19, 20, 24, 25, 26, 27] f f := FF.rf
  have hmz0 : 0 ≤ mz (v 3).toInt (v 7).toInt (v 8).toInt := mz_nn he
  have rg4 : 0 ≤ (v 4).toInt ∧ (v 4).toInt ≤ 5 := hv 4
  have rg29 : 0 ≤ (v 29).toInt ∧ (v 29).toInt ≤ 1 := hv 29
  have rg30 : 0 ≤ (v 30).toInt ∧ (v 30).toInt ≤ 1 := hv 30
  have rg31 : 0 ≤ (v 31).toInt ∧ (v 31).toInt ≤ 1200 := hv 31
  have rgU : 0 ≤ (f 13 (Int32.toNatClampNeg (v 30))).toInt ∧ (f 13 (Int32.toNatClampNeg (v 30))).toInt ≤ 60 := hf 13 _ (show (Int32.toNatClampNeg (v 30)) < 2 from by rw [ow_tn]; omega)
  have rgK : 0 ≤ (f 12 (Int32.toNatClampNeg (v 30))).toInt ∧ (f 12 (Int32.toNatClampNeg (v 30))).toInt ≤ 8 := hf 12 _ (show (Int32.toNatClampNeg (v 30)) < 2 from by rw [ow_tn]; omega)
  have hPB3 := hPB.2.2
  refine lv_bipush (v := 8) hx hb dX12_readLock_0 (by decide) ?_
  refine lv_aload_n hx hb dX12_readLock_2 rfl (lv_at hl 0 rfl) ?_
  refine mg_30 hx hb ht hown hK hP dX12_readLock_3 ?_
  have q_1 : 0 ≤ (v 30).toInt ∧ (v 30).toInt ≤ 1 := hv 30
  refine lv_imul hx hb dX12_readLock_6 ?_
  refine lv_topi (fun v_2 ev_2 => ?_)
  have q_3 : v_2.toInt = 8 * (v 30).toInt := ow_mul ev_2 (by decide) (by omega) (by omega)
  refine lv_aload_n hx hb dX12_readLock_7 rfl (lv_at hl 0 rfl) ?_
  refine mg_12 hx hb ht hown hK hP dX12_readLock_8 ?_
  refine lv_aload_n hx hb dX12_readLock_11 rfl (lv_at hl 0 rfl) ?_
  refine mg_30 hx hb ht hown hK hP dX12_readLock_12 ?_
  have q_4 : vp_in (v 30) 2 := vp_in_iff.mpr ⟨by omega, by omega⟩
  refine ml_12 hx hb hK hP q_4 dX12_readLock_15 ?_
  refine lv_topi (fun v_5 ev_5 => ?_)
  have q_6 : 0 ≤ v_5.toInt ∧ v_5.toInt ≤ 8 := by rw [ev_5]; exact MIf.rd 12 hf q_4
  have q_7 : v_5.toInt = ((f 12) (Int32.toNatClampNeg (v 30))).toInt := (congrArg Int32.toInt ev_5).trans (congrArg (fun z : Nat → Int32 => (z (Int32.toNatClampNeg (v 30))).toInt) (show f 12 = (f 12) from rfl))
  refine lv_iadd hx hb dX12_readLock_16 ?_
  refine lv_topi (fun v_8 ev_8 => ?_)
  have q_9 : v_8.toInt = v_2.toInt + v_5.toInt := ow_add ev_8 (by omega) (by omega)
  refine lv_istore_n (lv' := [(1, .int v_8), (0, .ref mo)]) hx hb dX12_readLock_17 rfl hl (by decide) rfl (fun ls hl => ?_)
  refine lv_aload_n hx hb dX12_readLock_18 rfl (lv_at hl 1 rfl) ?_
  refine lv_aload_n hx hb dX12_readLock_19 rfl (lv_at hl 1 rfl) ?_
  refine lv_aload_n hx hb dX12_readLock_20 rfl (lv_at hl 1 rfl) ?_
  refine mg_23 hx hb ht hown hK hP dX12_readLock_21 ?_
  refine lv_bipush (v := 8) hx hb dX12_readLock_24 (by decide) ?_
  refine lv_aload_n hx hb dX12_readLock_26 rfl (lv_at hl 1 rfl) ?_
  refine mg_30 hx hb ht hown hK hP dX12_readLock_27 ?_
  refine lv_imul hx hb dX12_readLock_30 ?_
  refine lv_topi (fun v_10 ev_10 => ?_)
  have q_11 : v_10.toInt = 8 * (v 30).toInt := ow_mul ev_10 (by decide) (by omega) (by omega)
  refine lv_aload_n hx hb dX12_readLock_31 rfl (lv_at hl 1 rfl) ?_
  refine mg_12 hx hb ht hown hK hP dX12_readLock_32 ?_
  refine lv_aload_n hx hb dX12_readLock_35 rfl (lv_at hl 1 rfl) ?_
  refine mg_30 hx hb ht hown hK hP dX12_readLock_36 ?_
  refine ml_12 hx hb hK hP q_4 dX12_readLock_39 ?_
  refine ow_top v_5 ev_5.symm ?_
  have hFc := fr_new hS hA
  refine va_calli (va_runV (As := [.ref (h 23), .int v_10, .int v_5]) (rest := [.ref mo]) ⟨hx, hb, hml, hown, ht⟩ (m_hereL l G cy _ mo h T v nm f g v_10 v_5  hv hf hR hL (by omega) (by omega) (show v_10.toInt + v_5.toInt ≤ 16 from by omega)) (cwV 3 ht (gv k_236 k_237 k_238 k_61 k_235) rfl rfl rfl (by decide +kernel) ⟨Nat.le_of_ble_eq_true rfl, Nat.le_of_ble_eq_true rfl⟩) ⟨En.blind, va_recv hK hP (ci := 12) (q0 := 0) rfl rfl, fun U hU hW => ⟨rfl, En.of hU hW hP hK hD hN⟩⟩ rfl rfl hl.1 rfl (lv_room (Nat.le_of_ble_eq_true rfl)) dX12_readLock_40 ⟨Nat.le_of_ble_eq_true rfl, Nat.le_of_ble_eq_true rfl⟩) hS (fun q _ h => hFc q h) hFc (fun r_u_12 u_12 t9 H locs ht9 hvm hw hB hz1 hk1 hS => ?_)
  have hP := fr_keep hP hk1
  have wu_12 := hw
  clear hFc hk1 hz1 hB hw
  refine W.widen (k := 0) (n := 0) (Nat.le_of_ble_eq_true rfl) (Nat.le_of_ble_eq_true rfl) ?_
  have jn_13 : ∀ (y0_13 : Int32) (H : Heap) (locs : List Loc) (ls : Array Slot), (0 ≤ y0_13.toInt ∧ y0_13.toInt ≤ 1) → va_P G vwCl (WMs cy mo h v nm f g) H → va_D A (WMs cy mo h v nm f g) → va_S A s.heap H locs → lv_has ls 4 [(1, .int v_8), (0, .ref mo)] → W p l e (headSpec (.code yX12_readLock cX12_readLock 4 none :: TBg) ({ frames := 6, cells := 0, slots := 0, locals := 384 })).room s m ([.ref mo] : List Value).toArray below meth c H locs 0 0 (MQ below (va_Qv (fun (u : (Nat → Int32) × Int64 × (Nat → Nat → Int32) × (Nat → Nat → Int64)) => MIv T u.1 ∧ MIf u.2.2.1 ∧ RI u.1 u.2.2.1 ∧ WL u.1 u.2.2.1 ∧ FV [4, 5, 6, 7, 8, 9, 31, 32, 33] v u.1 ∧ FF [12, 13, 18, 19, 20, 24, 25, 26, 27] f u.2.2.1 ∧ (((u.1 7).toInt ≤ (v 3).toInt ∧ ((u.1 4).toInt ≠ 0 ∨ (v 4).toInt = 0))) ∧ (0 ≤ mz (v 3).toInt (u.1 7).toInt (u.1 8).toInt ∧ mz (v 3).toInt (u.1 7).toInt (u.1 8).toInt ≤ mz (v 3).toInt (v 7).toInt (v 8).toInt) ∧ ((u.1 4).toInt = 0 → PB (v 30).toInt (u.1 31).toInt (u.2.2.1 13 (Int32.toNatClampNeg (v 30))).toInt (u.2.2.1 12) (u.2.2.1 19) (u.2.2.1 20) (u.2.2.1 24) (u.2.2.1 25) (Int32.toNatClampNeg (v 30)))) (fun u t => Ex G A (WMs cy mo h u.1 u.2.1 u.2.2.1 u.2.2.2) t) A) ([.ref mo] : List Value).toArray s 0 0 A) (F0 m 51 ls [.int y0_13, .ref mo]) := by
    intro y0_13 H locs ls qf13_0 hP hD hS hl
    have hFc := fr_free hD hS hA
    refine va_calll (va_runV (As := [.int y0_13]) (rest := []) ⟨hx, hb, hml, hown, ht⟩ (m_fresh l G cy _ mo h T v nm f g y0_13  hv hf hR hL (by omega) (show (v 7).toInt ≤ (v 3).toInt from by omega)) (cwV 1 ht (gv k_284 k_285 k_286 k_61 k_283) rfl rfl rfl (by decide +kernel) ⟨Nat.le_of_ble_eq_true rfl, Nat.le_of_ble_eq_true rfl⟩) ⟨En.blind, va_recv hK hP (ci := 12) (q0 := 0) rfl rfl, fun U hU hW => ⟨rfl, En.of hU hW hP hK hD hN⟩⟩ rfl rfl hl.1 rfl (lv_room (Nat.le_of_ble_eq_true rfl)) dX12_readLock_51 ⟨Nat.le_of_ble_eq_true rfl, Nat.le_of_ble_eq_true rfl⟩) hS (fun q _ h => hFc q h) hFc (fun r_u_14 u_14 t9 H locs ht9 hvm hw hB hz1 hk1 hS => ?_)
    obtain ⟨v14, nm14⟩ := u_14
    obtain ⟨hP1, hD1⟩ := hB
    rw [ht9] at hP1
    obtain ⟨hv, xu_14V, wu_14, xu_14_M⟩ := hw
    dsimp only at hv xu_14V wu_14 xu_14_M
    have hP : va_P G vwCl (WMs cy mo h v14 nm14 f g) H := hP1
    have hD : va_D A (WMs cy mo h v14 nm14 f g) := hD1.weaken (fun _ _ _ h => hFc _ h)
    replace hR : RI v14 f := RI.fv hR xu_14V (by decide)
    replace hL : WL v14 f := WL.fv hL xu_14V (by decide) (by decide)
    replace hV_0 := FV.tr hV_0 xu_14V (by decide)
    clear hFc hk1 hz1 hP1 hD1
    replace wu_14 : ((v14 7).toInt ≤ (v 3).toInt ∧ ((v14 4).toInt ≠ 0 ∨ (v 4).toInt = 0)) := wu_14
    replace xu_14_M : 0 ≤ mz (v 3).toInt (v14 7).toInt (v14 8).toInt ∧ mz (v 3).toInt (v14 7).toInt (v14 8).toInt ≤ mz (v 3).toInt (v 7).toInt (v 8).toInt := by
      have h9 : 0 ≤ mz (v 3).toInt (v14 7).toInt (v14 8).toInt ∧ mz (v 3).toInt (v14 7).toInt (v14 8).toInt ≤ mz (v 3).toInt (v 7).toInt (v 8).toInt := xu_14_M
      exact h9
    refine lv_lstore_n (lv' := [(2, .long r_u_14), (1, .int v_8), (0, .ref mo)]) hx hb dX12_readLock_54 rfl hl (by decide) rfl (fun ls hl => ?_)
    refine lv_aload_n hx hb dX12_readLock_55 rfl (lv_at hl 2 rfl) ?_
    refine lv_aload_n hx hb dX12_readLock_56 rfl (lv_at hl 2 rfl) ?_
    refine lv_ldc2 (v := 1852137842) hx hb hown (ht _ k_201) dX12_readLock_57 ?_
    have hFc := fr_new hS hA
    refine va_calli (va_runV (As := [.long (1852137842 : Int64)]) (rest := [.ref mo]) ⟨hx, hb, hml, hown, ht⟩ (m_isWord l G cy _ mo h T v14 nm14 f g (1852137842 : Int64)  hv hf hR hL) (cwV 1 ht (gv k_240 k_241 k_242 k_61 k_239) rfl rfl rfl (by decide +kernel) ⟨Nat.le_of_ble_eq_true rfl, Nat.le_of_ble_eq_true rfl⟩) ⟨En.blind, va_recv hK hP (ci := 12) (q0 := 0) rfl rfl, fun U hU hW => ⟨rfl, En.of hU hW hP hK hD hN⟩⟩ rfl rfl hl.1 rfl (lv_room (Nat.le_of_ble_eq_true rfl)) dX12_readLock_60 ⟨Nat.le_of_ble_eq_true rfl, Nat.le_of_ble_eq_true rfl⟩) hS (fun q _ h => hFc q h) hFc (fun r_u_15 u_15 t9 H locs ht9 hvm hw hB hz1 hk1 hS => ?_)
    have hP := fr_keep hP hk1
    obtain ⟨wu_15, xu_15_W⟩ := hw
    clear hFc hk1 hz1 hB
    replace wu_15 : (r_u_15.toInt = 0 ∨ r_u_15.toInt = 1) ∧ (r_u_15.toInt = 0 ∨ (v14 8).toInt = 3) := wu_15
    replace xu_15_W : (r_u_15.toInt = 1 → nm14 = (1852137842 : Int64)) ∧ (r_u_15.toInt = 0 → (v14 8).toInt = 3 → ¬ nm14 = (1852137842 : Int64)) := by
      have h9 : (r_u_15.toInt = 1 → nm14 = (1852137842 : Int64)) ∧ (r_u_15.toInt = 0 → (v14 8).toInt = 3 → ¬ nm14 = (1852137842 : Int64)) := xu_15_W
      exact h9
    have hFc := fr_free hD hS hA
    refine va_callv (va_runV (As := [.int r_u_15]) (rest := []) ⟨hx, hb, hml, hown, ht⟩ (m_must l G cy _ mo h T v14 nm14 f g r_u_15  hv hf hR hL (by omega) (show (v14 7).toInt ≤ (v14 3).toInt from by rw [(show v14 3 = (v 3) from (xu_14V 3 (by decide)))]; omega)) (cwV 1 ht (gv k_268 k_269 k_270 k_61 k_267) rfl rfl rfl (by decide +kernel) ⟨Nat.le_of_ble_eq_true rfl, Nat.le_of_ble_eq_true rfl⟩) ⟨En.blind, va_recv hK hP (ci := 12) (q0 := 0) rfl rfl, fun U hU hW => ⟨rfl, En.of hU hW hP hK hD hN⟩⟩ rfl rfl hl.1 rfl (lv_room (Nat.le_of_ble_eq_true rfl)) dX12_readLock_63 ⟨Nat.le_of_ble_eq_true rfl, Nat.le_of_ble_eq_true rfl⟩) hS (fun q _ h => hFc q h) hFc (fun u_16 t9 H locs ht9 hvm hw hB hz1 hk1 hS => ?_)
    obtain ⟨v16, nm16⟩ := u_16
    obtain ⟨hP1, hD1⟩ := hB
    rw [ht9] at hP1
    obtain ⟨hv, xu_16V, wu_16, xu_16_M⟩ := hw
    dsimp only at hv xu_16V wu_16 xu_16_M
    have hP : va_P G vwCl (WMs cy mo h v16 nm16 f g) H := hP1
    have hD : va_D A (WMs cy mo h v16 nm16 f g) := hD1.weaken (fun _ _ _ h => hFc _ h)
    replace hR : RI v16 f := RI.fv hR xu_16V (by decide)
    replace hL : WL v16 f := WL.fv hL xu_16V (by decide) (by decide)
    replace hV_0 := FV.tr hV_0 xu_16V (by decide)
    clear hFc hk1 hz1 hP1 hD1
    replace wu_16 : ((v16 7).toInt ≤ (v 3).toInt ∧ ((v16 4).toInt ≠ 0 ∨ (v14 4).toInt = 0)) := by
      have h9 : ((v16 7).toInt ≤ (v14 3).toInt ∧ ((v16 4).toInt ≠ 0 ∨ (v14 4).toInt = 0)) := wu_16
      rw [(show v14 3 = (v 3) from (xu_14V 3 (by decide)))] at h9
      exact h9
    replace xu_16_M : 0 ≤ mz (v 3).toInt (v16 7).toInt (v16 8).toInt ∧ mz (v 3).toInt (v16 7).toInt (v16 8).toInt ≤ mz (v 3).toInt (v14 7).toInt (v14 8).toInt := by
      have h9 : 0 ≤ mz (v14 3).toInt (v16 7).toInt (v16 8).toInt ∧ mz (v14 3).toInt (v16 7).toInt (v16 8).toInt ≤ mz (v14 3).toInt (v14 7).toInt (v14 8).toInt := xu_16_M
      rw [(show v14 3 = (v 3) from (xu_14V 3 (by decide)))] at h9
      exact h9
    refine lv_aload_n hx hb dX12_readLock_66 rfl (lv_at hl 2 rfl) ?_
    refine mg_18 hx hb ht hown hK hP dX12_readLock_67 ?_
    refine lv_iload_n hx hb dX12_readLock_70 rfl (lv_at hl 1 rfl) ?_
    refine lv_aload_n hx hb dX12_readLock_71 rfl (lv_at hl 2 rfl) ?_
    refine lv_iconst (v := 0) hx hb dX12_readLock_72 (by decide) ?_
    refine lv_bipush (v := 20) hx hb dX12_readLock_73 (by decide) ?_
    have hFc := fr_free hD hS hA
    refine va_calli (va_runV (As := [.int 0, .int 20]) (rest := [.int v_8, .ref (h 18)]) ⟨hx, hb, hml, hown, ht⟩ (m_numeral l G cy _ mo h T v16 nm16 f g (0) (20)  hv hf hR hL (show (0 : Int32).toInt ≤ (20 : Int32).toInt from by omega) (show (v16 7).toInt ≤ (v16 3).toInt from by rw [(show v16 3 = (v 3) from ((xu_16V 3 (by decide)).trans (xu_14V 3 (by decide))))]; omega)) (cwV 2 ht (gv k_288 k_289 k_290 k_61 k_287) rfl rfl rfl (by decide +kernel) ⟨Nat.le_of_ble_eq_true rfl, Nat.le_of_ble_eq_true rfl⟩) ⟨En.blind, va_recv hK hP (ci := 12) (q0 := 0) rfl rfl, fun U hU hW => ⟨rfl, En.of hU hW hP hK hD hN⟩⟩ rfl rfl hl.1 rfl (lv_room (Nat.le_of_ble_eq_true rfl)) dX12_readLock_75 ⟨Nat.le_of_ble_eq_true rfl, Nat.le_of_ble_eq_true rfl⟩) hS (fun q _ h => hFc q h) hFc (fun r_u_17 u_17 t9 H locs ht9 hvm hw hB hz1 hk1 hS => ?_)
    obtain ⟨v17, nm17⟩ := u_17
    obtain ⟨hP1, hD1⟩ := hB
    rw [ht9] at hP1
    obtain ⟨hv, xu_17V, wu_17, xu_17_M⟩ := hw
    dsimp only at hv xu_17V wu_17 xu_17_M
    have hP : va_P G vwCl (WMs cy mo h v17 nm17 f g) H := hP1
    have hD : va_D A (WMs cy mo h v17 nm17 f g) := hD1.weaken (fun _ _ _ h => hFc _ h)
    replace hR : RI v17 f := RI.fv hR xu_17V (by decide)
    replace hL : WL v17 f := WL.fv hL xu_17V (by decide) (by decide)
    replace hV_0 := FV.tr hV_0 xu_17V (by decide)
    clear hFc hk1 hz1 hP1 hD1
    replace wu_17 : ((0 : Int32).toInt ≤ r_u_17.toInt ∧ r_u_17.toInt ≤ (20 : Int32).toInt ∧ (v17 7).toInt ≤ (v 3).toInt ∧ ((v17 4).toInt ≠ 0 ∨ ((v16 4).toInt = 0 ∧ (v16 8).toInt = 4))) := by
      have h9 : ((0 : Int32).toInt ≤ r_u_17.toInt ∧ r_u_17.toInt ≤ (20 : Int32).toInt ∧ (v17 7).toInt ≤ (v16 3).toInt ∧ ((v17 4).toInt ≠ 0 ∨ ((v16 4).toInt = 0 ∧ (v16 8).toInt = 4))) := wu_17
      rw [(show v16 3 = (v 3) from ((xu_16V 3 (by decide)).trans (xu_14V 3 (by decide))))] at h9
      exact h9
    replace xu_17_M : 0 ≤ mz (v 3).toInt (v17 7).toInt (v17 8).toInt ∧ mz (v 3).toInt (v17 7).toInt (v17 8).toInt ≤ mz (v 3).toInt (v16 7).toInt (v16 8).toInt ∧ ((v17 4).toInt ≠ 0 ∨ mz (v 3).toInt (v17 7).toInt (v17 8).toInt < mz (v 3).toInt (v16 7).toInt (v16 8).toInt) := by
      have h9 : 0 ≤ mz (v16 3).toInt (v17 7).toInt (v17 8).toInt ∧ mz (v16 3).toInt (v17 7).toInt (v17 8).toInt ≤ mz (v16 3).toInt (v16 7).toInt (v16 8).toInt ∧ ((v17 4).toInt ≠ 0 ∨ mz (v16 3).toInt (v17 7).toInt (v17 8).toInt < mz (v16 3).toInt (v16 7).toInt (v16 8).toInt) := xu_17_M
      rw [(show v16 3 = (v 3) from ((xu_16V 3 (by decide)).trans (xu_14V 3 (by decide))))] at h9
      exact h9
    have q_18 : vp_in v_8 16 := vp_in_iff.mpr ⟨by omega, by omega⟩
    refine ms_18 hx hb hK hP hD hS q_18 dX12_readLock_78 (fun H locs hP hD hS => ?_)
    replace hf := MIf.up 18 (i := (Int32.toNatClampNeg v_8)) hf (ow_any r_u_17)
    replace hF_0 := FF.up hF_0 18 (upd (f 18) (Int32.toNatClampNeg v_8) r_u_17) (by decide)
    replace hL : WL v17 (va_up f 18 (upd (f 18) (Int32.toNatClampNeg v_8) r_u_17)) := WL.upf 18 hL (by decide)
    replace hR : RI v17 (va_up f 18 (upd (f 18) (Int32.toNatClampNeg v_8) r_u_17)) := RI.up 18 hR (by decide)
    refine lv_aload_n hx hb dX12_readLock_79 rfl (lv_at hl 2 rfl) ?_
    refine lv_aload_n hx hb dX12_readLock_80 rfl (lv_at hl 2 rfl) ?_
    refine lv_ldc2 (v := 478627065459) hx hb hown (ht _ k_202) dX12_readLock_81 ?_
    have hFc := fr_new hS hA
    refine va_calli (va_runV (As := [.long (478627065459 : Int64)]) (rest := [.ref mo]) ⟨hx, hb, hml, hown, ht⟩ (m_isWord l G cy _ mo h T v17 nm17 (va_up f 18 (upd (f 18) (Int32.toNatClampNeg v_8) r_u_17)) g (478627065459 : Int64)  hv hf hR hL) (cwV 1 ht (gv k_240 k_241 k_242 k_61 k_239) rfl rfl rfl (by decide +kernel) ⟨Nat.le_of_ble_eq_true rfl, Nat.le_of_ble_eq_true rfl⟩) ⟨En.blind, va_recv hK hP (ci := 12) (q0 := 0) rfl rfl, fun U hU hW => ⟨rfl, En.of hU hW hP hK hD hN⟩⟩ rfl rfl hl.1 rfl (lv_room (Nat.le_of_ble_eq_true rfl)) dX12_readLock_84 ⟨Nat.le_of_ble_eq_true rfl, Nat.le_of_ble_eq_true rfl⟩) hS (fun q _ h => hFc q h) hFc (fun r_u_19 u_19 t9 H locs ht9 hvm hw hB hz1 hk1 hS => ?_)
    have hP := fr_keep hP hk1
    obtain ⟨wu_19, xu_19_W⟩ := hw
    clear hFc hk1 hz1 hB
    replace wu_19 : (r_u_19.toInt = 0 ∨ r_u_19.toInt = 1) ∧ (r_u_19.toInt = 0 ∨ (v17 8).toInt = 3) := wu_19
    replace xu_19_W : (r_u_19.toInt = 1 → nm17 = (478627065459 : Int64)) ∧ (r_u_19.toInt = 0 → (v17 8).toInt = 3 → ¬ nm17 = (478627065459 : Int64)) := by
      have h9 : (r_u_19.toInt = 1 → nm17 = (478627065459 : Int64)) ∧ (r_u_19.toInt = 0 → (v17 8).toInt = 3 → ¬ nm17 = (478627065459 : Int64)) := xu_19_W
      exact h9
    have hFc := fr_free hD hS hA
    refine va_callv (va_runV (As := [.int r_u_19]) (rest := []) ⟨hx, hb, hml, hown, ht⟩ (m_must l G cy _ mo h T v17 nm17 (va_up f 18 (upd (f 18) (Int32.toNatClampNeg v_8) r_u_17)) g r_u_19  hv hf hR hL (by omega) (show (v17 7).toInt ≤ (v17 3).toInt from by rw [(show v17 3 = (v 3) from ((xu_17V 3 (by decide)).trans ((xu_16V 3 (by decide)).trans (xu_14V 3 (by decide)))))]; omega)) (cwV 1 ht (gv k_268 k_269 k_270 k_61 k_267) rfl rfl rfl (by decide +kernel) ⟨Nat.le_of_ble_eq_true rfl, Nat.le_of_ble_eq_true rfl⟩) ⟨En.blind, va_recv hK hP (ci := 12) (q0 := 0) rfl rfl, fun U hU hW => ⟨rfl, En.of hU hW hP hK hD hN⟩⟩ rfl rfl hl.1 rfl (lv_room (Nat.le_of_ble_eq_true rfl)) dX12_readLock_87 ⟨Nat.le_of_ble_eq_true rfl, Nat.le_of_ble_eq_true rfl⟩) hS (fun q _ h => hFc q h) hFc (fun u_20 t9 H locs ht9 hvm hw hB hz1 hk1 hS => ?_)
    obtain ⟨v20, nm20⟩ := u_20
    obtain ⟨hP1, hD1⟩ := hB
    rw [ht9] at hP1
    obtain ⟨hv, xu_20V, wu_20, xu_20_M⟩ := hw
    dsimp only at hv xu_20V wu_20 xu_20_M
    have hP : va_P G vwCl (WMs cy mo h v20 nm20 (va_up f 18 (upd (f 18) (Int32.toNatClampNeg v_8) r_u_17)) g) H := hP1
    have hD : va_D A (WMs cy mo h v20 nm20 (va_up f 18 (upd (f 18) (Int32.toNatClampNeg v_8) r_u_17)) g) := hD1.weaken (fun _ _ _ h => hFc _ h)
    replace hR : RI v20 (va_up f 18 (upd (f 18) (Int32.toNatClampNeg v_8) r_u_17)) := RI.fv hR xu_20V (by decide)
    replace hL : WL v20 (va_up f 18 (upd (f 18) (Int32.toNatClampNeg v_8) r_u_17)) := WL.fv hL xu_20V (by decide) (by decide)
    replace hV_0 := FV.tr hV_0 xu_20V (by decide)
    clear hFc hk1 hz1 hP1 hD1
    replace wu_20 : ((v20 7).toInt ≤ (v 3).toInt ∧ ((v20 4).toInt ≠ 0 ∨ (v17 4).toInt = 0)) := by
      have h9 : ((v20 7).toInt ≤ (v17 3).toInt ∧ ((v20 4).toInt ≠ 0 ∨ (v17 4).toInt = 0)) := wu_20
      rw [(show v17 3 = (v 3) from ((xu_17V 3 (by decide)).trans ((xu_16V 3 (by decide)).trans (xu_14V 3 (by decide)))))] at h9
      exact h9
    replace xu_20_M : 0 ≤ mz (v 3).toInt (v20 7).toInt (v20 8).toInt ∧ mz (v 3).toInt (v20 7).toInt (v20 8).toInt ≤ mz (v 3).toInt (v17 7).toInt (v17 8).toInt := by
      have h9 : 0 ≤ mz (v17 3).toInt (v20 7).toInt (v20 8).toInt ∧ mz (v17 3).toInt (v20 7).toInt (v20 8).toInt ≤ mz (v17 3).toInt (v17 7).toInt (v17 8).toInt := xu_20_M
      rw [(show v17 3 = (v 3) from ((xu_17V 3 (by decide)).trans ((xu_16V 3 (by decide)).trans (xu_14V 3 (by decide)))))] at h9
      exact h9
    refine lv_aload_n hx hb dX12_readLock_90 rfl (lv_at hl 2 rfl) ?_
    refine mg_19 hx hb ht hown hK hP dX12_readLock_91 ?_
    refine lv_iload_n hx hb dX12_readLock_94 rfl (lv_at hl 1 rfl) ?_
    refine lv_aload_n hx hb dX12_readLock_95 rfl (lv_at hl 2 rfl) ?_
    refine mg_31 hx hb ht hown hK hP dX12_readLock_96 ?_
    refine ow_top (v 31) ((xu_20V 31 (by decide)).trans ((xu_17V 31 (by decide)).trans ((xu_16V 31 (by decide)).trans (xu_14V 31 (by decide))))) ?_
    have q_21 : 0 ≤ (v 31).toInt ∧ (v 31).toInt ≤ 1200 := by have h9 : v20 31 = (v 31) := ((xu_20V 31 (by decide)).trans ((xu_17V 31 (by decide)).trans ((xu_16V 31 (by decide)).trans (xu_14V 31 (by decide))))); rw [← h9]; exact hv 31
    have q_22 : vp_in v_8 16 := vp_in_iff.mpr ⟨by omega, by omega⟩
    refine ms_19 hx hb hK hP hD hS q_22 dX12_readLock_99 (fun H locs hP hD hS => ?_)
    replace hf := MIf.up 19 (i := (Int32.toNatClampNeg v_8)) hf (show 0 ≤ (v 31).toInt ∧ (v 31).toInt ≤ 1200 from by omega)
    replace hF_0 := FF.up hF_0 19 (upd ((va_up f 18 (upd (f 18) (Int32.toNatClampNeg v_8) r_u_17)) 19) (Int32.toNatClampNeg v_8) (v 31)) (by decide)
    replace hL : WL v20 (va_up (va_up f 18 (upd (f 18) (Int32.toNatClampNeg v_8) r_u_17)) 19 (upd ((va_up f 18 (upd (f 18) (Int32.toNatClampNeg v_8) r_u_17)) 19) (Int32.toNatClampNeg v_8) (v 31))) := WL.upf 19 hL (by decide)
    have hb9 : ((Int32.toNatClampNeg v_8 : Nat) : Int) < 8 * ((Int32.toNatClampNeg (v20 29) : Nat) : Int) ∨ 8 * ((Int32.toNatClampNeg (v20 29) : Nat) : Int) + 8 ≤ ((Int32.toNatClampNeg v_8 : Nat) : Int) := by rw [show v20 29 = (v 29) from ((xu_20V 29 (by decide)).trans ((xu_17V 29 (by decide)).trans ((xu_16V 29 (by decide)).trans (xu_14V 29 (by decide)))))]; rw [ow_tn, ow_tn]; omega
    have hb8 : Int32.toNatClampNeg (v20 29) < 2 := by rw [show v20 29 = (v 29) from ((xu_20V 29 (by decide)).trans ((xu_17V 29 (by decide)).trans ((xu_16V 29 (by decide)).trans (xu_14V 29 (by decide)))))]; rw [ow_tn]; omega
    replace hR : RI v20 (va_up (va_up f 18 (upd (f 18) (Int32.toNatClampNeg v_8) r_u_17)) 19 (upd ((va_up f 18 (upd (f 18) (Int32.toNatClampNeg v_8) r_u_17)) 19) (Int32.toNatClampNeg v_8) (v 31))) := RIb.w19 hR (hf 12 _ hb8).2 hb9
    refine lv_aload_n hx hb dX12_readLock_100 rfl (lv_at hl 2 rfl) ?_
    have hFc := fr_free hD hS hA
    refine va_callv (va_runV (As := []) (rest := []) ⟨hx, hb, hml, hown, ht⟩ (m_e l G cy _ mo h T v20 nm20 (va_up (va_up f 18 (upd (f 18) (Int32.toNatClampNeg v_8) r_u_17)) 19 (upd ((va_up f 18 (upd (f 18) (Int32.toNatClampNeg v_8) r_u_17)) 19) (Int32.toNatClampNeg v_8) (v 31))) g   hv hf hR hL (show (v20 7).toInt ≤ (v20 3).toInt from by rw [(show v20 3 = (v 3) from ((xu_20V 3 (by decide)).trans ((xu_17V 3 (by decide)).trans ((xu_16V 3 (by decide)).trans (xu_14V 3 (by decide))))))]; omega) (show (v20 30).toInt + (v20 29).toInt = 1 from by rw [(show v20 30 = (v 30) from ((xu_20V 30 (by decide)).trans ((xu_17V 30 (by decide)).trans ((xu_16V 30 (by decide)).trans (xu_14V 30 (by decide)))))), (show v20 29 = (v 29) from ((xu_20V 29 (by decide)).trans ((xu_17V 29 (by decide)).trans ((xu_16V 29 (by decide)).trans (xu_14V 29 (by decide))))))]; omega) (show 600 * (v20 30).toInt ≤ (v20 31).toInt ∧ ((v20 4).toInt ≠ 0 ∨ (v20 31).toInt ≤ 600 * (v20 30).toInt + 9 * ((f 13) (Int32.toNatClampNeg (v20 30))).toInt) from by rw [(show v20 30 = (v 30) from ((xu_20V 30 (by decide)).trans ((xu_17V 30 (by decide)).trans ((xu_16V 30 (by decide)).trans (xu_14V 30 (by decide)))))), (show v20 31 = (v 31) from ((xu_20V 31 (by decide)).trans ((xu_17V 31 (by decide)).trans ((xu_16V 31 (by decide)).trans (xu_14V 31 (by decide))))))]; omega)) (cwV 0 ht (gv k_292 k_293 k_294 k_61 k_291) rfl rfl rfl (by decide +kernel) ⟨Nat.le_of_ble_eq_true rfl, Nat.le_of_ble_eq_true rfl⟩) ⟨En.blind, va_recv hK hP (ci := 12) (q0 := 0) rfl rfl, fun U hU hW => ⟨rfl, En.of hU hW hP hK hD hN⟩⟩ rfl rfl hl.1 rfl (lv_room (Nat.le_of_ble_eq_true rfl)) dX12_readLock_101 ⟨Nat.le_of_ble_eq_true rfl, Nat.le_of_ble_eq_true rfl⟩) hS (fun q _ h => hFc q h) hFc (fun u_23 t9 H locs ht9 hvm hw hB hz1 hk1 hS => ?_)
    obtain ⟨v23, nm23, f23, g23⟩ := u_23
    obtain ⟨hP1, hD1⟩ := hB
    rw [ht9] at hP1
    obtain ⟨hv, hf, hR, hL, xu_23V, xu_23F, wu_23, xu_23_M, xu_23_E, xu_23_O⟩ := hw
    have hP : va_P G vwCl (WMs cy mo h v23 nm23 f23 g23) H := hP1
    have hD : va_D A (WMs cy mo h v23 nm23 f23 g23) := hD1.weaken (fun _ _ _ h => hFc _ h)
    dsimp only at hv hf hR hL wu_23 xu_23V xu_23F xu_23_M xu_23_E xu_23_O
    clear hFc hk1 hz1 hP1 hD1
    replace hV_0 := FV.tr hV_0 xu_23V (by decide)
    replace hF_0 := FF.tr hF_0 xu_23F (by decide)
    replace wu_23 : ((v23 7).toInt ≤ (v 3).toInt ∧ ((v23 4).toInt ≠ 0 ∨ (v20 4).toInt = 0)) := by
      have h9 : ((v23 7).toInt ≤ (v20 3).toInt ∧ ((v23 4).toInt ≠ 0 ∨ (v20 4).toInt = 0)) := wu_23
      rw [(show v20 3 = (v 3) from ((xu_20V 3 (by decide)).trans ((xu_17V 3 (by decide)).trans ((xu_16V 3 (by decide)).trans (xu_14V 3 (by decide))))))] at h9
      exact h9
    replace xu_23_M : 0 ≤ mz (v 3).toInt (v23 7).toInt (v23 8).toInt ∧ mz (v 3).toInt (v23 7).toInt (v23 8).toInt ≤ mz (v 3).toInt (v20 7).toInt (v20 8).toInt := by
      have h9 : 0 ≤ mz (v20 3).toInt (v23 7).toInt (v23 8).toInt ∧ mz (v20 3).toInt (v23 7).toInt (v23 8).toInt ≤ mz (v20 3).toInt (v20 7).toInt (v20 8).toInt := xu_23_M
      rw [(show v20 3 = (v 3) from ((xu_20V 3 (by decide)).trans ((xu_17V 3 (by decide)).trans ((xu_16V 3 (by decide)).trans (xu_14V 3 (by decide))))))] at h9
      exact h9
    replace xu_23_E : (v23 4).toInt = 0 → wfr (f23 24) (f23 25) (v 31).toInt.toNat (v23 31).toInt.toNat ∧ (v 31).toInt ≤ (v23 31).toInt ∧ (v23 31).toInt ≤ 600 * (v 30).toInt + 9 * ((f23 13) (Int32.toNatClampNeg (v 30))).toInt := by
      have h9 : (v23 4).toInt = 0 → wfr (f23 24) (f23 25) (v20 31).toInt.toNat (v23 31).toInt.toNat ∧ (v20 31).toInt ≤ (v23 31).toInt ∧ (v23 31).toInt ≤ 600 * (v20 30).toInt + 9 * ((f23 13) (Int32.toNatClampNeg (v20 30))).toInt := xu_23_E
      rw [(show v20 31 = (v 31) from ((xu_20V 31 (by decide)).trans ((xu_17V 31 (by decide)).trans ((xu_16V 31 (by decide)).trans (xu_14V 31 (by decide)))))), (show v20 30 = (v 30) from ((xu_20V 30 (by decide)).trans ((xu_17V 30 (by decide)).trans ((xu_16V 30 (by decide)).trans (xu_14V 30 (by decide))))))] at h9
      exact h9
    replace xu_23_O : OUT (v 31).toInt (600 * (v 30).toInt + 600) (f 24) (f 25) (f23 24) (f23 25) := by
      have h9 : OUT (v20 31).toInt (600 * (v20 30).toInt + 600) (f 24) (f 25) (f23 24) (f23 25) := xu_23_O
      rw [(show v20 31 = (v 31) from ((xu_20V 31 (by decide)).trans ((xu_17V 31 (by decide)).trans ((xu_16V 31 (by decide)).trans (xu_14V 31 (by decide)))))), (show v20 30 = (v 30) from ((xu_20V 30 (by decide)).trans ((xu_17V 30 (by decide)).trans ((xu_16V 30 (by decide)).trans (xu_14V 30 (by decide))))))] at h9
      exact h9
    have rgU2 : 0 ≤ ((f23 13) (Int32.toNatClampNeg (v 30))).toInt ∧ ((f23 13) (Int32.toNatClampNeg (v 30))).toInt ≤ 60 := hf 13 _ (show (Int32.toNatClampNeg (v 30)) < 2 from by rw [ow_tn]; omega)
    refine lv_aload_n hx hb dX12_readLock_104 rfl (lv_at hl 2 rfl) ?_
    refine mg_20 hx hb ht hown hK hP dX12_readLock_105 ?_
    refine lv_iload_n hx hb dX12_readLock_108 rfl (lv_at hl 1 rfl) ?_
    refine lv_aload_n hx hb dX12_readLock_109 rfl (lv_at hl 2 rfl) ?_
    refine mg_31 hx hb ht hown hK hP dX12_readLock_110 ?_
    have q_24 : 0 ≤ (v23 31).toInt ∧ (v23 31).toInt ≤ 1200 := hv 31
    have q_25 : vp_in v_8 16 := vp_in_iff.mpr ⟨by omega, by omega⟩
    refine ms_20 hx hb hK hP hD hS q_25 dX12_readLock_113 (fun H locs hP hD hS => ?_)
    replace hf := MIf.up 20 (i := (Int32.toNatClampNeg v_8)) hf (show 0 ≤ (v23 31).toInt ∧ (v23 31).toInt ≤ 1200 from by omega)
    replace hF_0 := FF.up hF_0 20 (upd (f23 20) (Int32.toNatClampNeg v_8) (v23 31)) (by decide)
    replace hL : WL v23 (va_up f23 20 (upd (f23 20) (Int32.toNatClampNeg v_8) (v23 31))) := WL.upf 20 hL (by decide)
    have hb9 : ((Int32.toNatClampNeg v_8 : Nat) : Int) < 8 * ((Int32.toNatClampNeg (v23 29) : Nat) : Int) ∨ 8 * ((Int32.toNatClampNeg (v23 29) : Nat) : Int) + 8 ≤ ((Int32.toNatClampNeg v_8 : Nat) : Int) := by rw [show v23 29 = (v 29) from ((xu_23V 29 (by decide)).trans ((xu_20V 29 (by decide)).trans ((xu_17V 29 (by decide)).trans ((xu_16V 29 (by decide)).trans (xu_14V 29 (by decide))))))]; rw [ow_tn, ow_tn]; omega
    have hb8 : Int32.toNatClampNeg (v23 29) < 2 := by rw [show v23 29 = (v 29) from ((xu_23V 29 (by decide)).trans ((xu_20V 29 (by decide)).trans ((xu_17V 29 (by decide)).trans ((xu_16V 29 (by decide)).trans (xu_14V 29 (by decide))))))]; rw [ow_tn]; omega
    replace hR : RI v23 (va_up f23 20 (upd (f23 20) (Int32.toNatClampNeg v_8) (v23 31))) := RIb.w20 hR (hf 12 _ hb8).2 hb9
    refine lv_aload_n hx hb dX12_readLock_114 rfl (lv_at hl 2 rfl) ?_
    refine mg_23 hx hb ht hown hK hP dX12_readLock_115 ?_
    refine lv_iload_n hx hb dX12_readLock_118 rfl (lv_at hl 1 rfl) ?_
    refine lv_lload_n hx hb dX12_readLock_119 rfl (lv_at hl 0 rfl) ?_
    have q_26 : vp_in v_8 16 := vp_in_iff.mpr ⟨by omega, by omega⟩
    refine ms_23 hx hb hK hP hD hS q_26 dX12_readLock_120 (fun H locs hP hD hS => ?_)
    refine lv_aload_n hx hb dX12_readLock_121 rfl (lv_at hl 2 rfl) ?_
    refine mg_12 hx hb ht hown hK hP dX12_readLock_122 ?_
    refine lv_aload_n hx hb dX12_readLock_125 rfl (lv_at hl 2 rfl) ?_
    refine mg_30 hx hb ht hown hK hP dX12_readLock_126 ?_
    refine ow_top (v 30) ((xu_23V 30 (by decide)).trans ((xu_20V 30 (by decide)).trans ((xu_17V 30 (by decide)).trans ((xu_16V 30 (by decide)).trans (xu_14V 30 (by decide)))))) ?_
    have q_27 : 0 ≤ (v 30).toInt ∧ (v 30).toInt ≤ 1 := by have h9 : v23 30 = (v 30) := ((xu_23V 30 (by decide)).trans ((xu_20V 30 (by decide)).trans ((xu_17V 30 (by decide)).trans ((xu_16V 30 (by decide)).trans (xu_14V 30 (by decide)))))); rw [← h9]; exact hv 30
    refine lv_dup2_11 hx hb dX12_readLock_129 rfl rfl ?_
    have q_28 : vp_in (v 30) 2 := vp_in_iff.mpr ⟨by omega, by omega⟩
    refine ml_12 hx hb hK hP q_28 dX12_readLock_130 ?_
    refine lv_topi (fun v_29 ev_29 => ?_)
    have q_30 : 0 ≤ v_29.toInt ∧ v_29.toInt ≤ 8 := by rw [ev_29]; exact MIf.rd 12 hf q_28
    have q_31 : v_29.toInt = ((f 12) (Int32.toNatClampNeg (v 30))).toInt := (congrArg Int32.toInt ev_29).trans (congrArg (fun z : Nat → Int32 => (z (Int32.toNatClampNeg (v 30))).toInt) (show (va_up f23 20 (upd (f23 20) (Int32.toNatClampNeg v_8) (v23 31))) 12 = (f 12) from (xu_23F 12 (by decide))))
    refine lv_iconst (v := 1) hx hb dX12_readLock_131 (by decide) ?_
    refine lv_iadd hx hb dX12_readLock_132 ?_
    refine lv_topi (fun v_32 ev_32 => ?_)
    have q_33 : v_32.toInt = v_29.toInt + (1 : Int32).toInt := ow_add ev_32 (by omega) (by omega)
    have q_34 : vp_in (v 30) 2 := vp_in_iff.mpr ⟨by omega, by omega⟩
    refine ms_12 hx hb hK hP hD hS q_34 dX12_readLock_133 (fun H locs hP hD hS => ?_)
    replace hf := MIf.up 12 (i := (Int32.toNatClampNeg (v 30))) hf (show 0 ≤ v_32.toInt ∧ v_32.toInt ≤ 8 from by omega)
    replace hF_0 := FF.up hF_0 12 (upd ((va_up f23 20 (upd (f23 20) (Int32.toNatClampNeg v_8) (v23 31))) 12) (Int32.toNatClampNeg (v 30)) v_32) (by decide)
    have hb9 : Int32.toNatClampNeg (v23 29) ≠ Int32.toNatClampNeg (v 30) := by rw [show v23 29 = (v 29) from ((xu_23V 29 (by decide)).trans ((xu_20V 29 (by decide)).trans ((xu_17V 29 (by decide)).trans ((xu_16V 29 (by decide)).trans (xu_14V 29 (by decide))))))]; rw [ow_tn, ow_tn]; omega
    replace hL : WL v23 (va_up (va_up f23 20 (upd (f23 20) (Int32.toNatClampNeg v_8) (v23 31))) 12 (upd ((va_up f23 20 (upd (f23 20) (Int32.toNatClampNeg v_8) (v23 31))) 12) (Int32.toNatClampNeg (v 30)) v_32)) := WL.w12 hL hb9
    have hb9 : Int32.toNatClampNeg (v23 29) ≠ Int32.toNatClampNeg (v 30) := by rw [show v23 29 = (v 29) from ((xu_23V 29 (by decide)).trans ((xu_20V 29 (by decide)).trans ((xu_17V 29 (by decide)).trans ((xu_16V 29 (by decide)).trans (xu_14V 29 (by decide))))))]; rw [ow_tn, ow_tn]; omega
    replace hR : RI v23 (va_up (va_up f23 20 (upd (f23 20) (Int32.toNatClampNeg v_8) (v23 31))) 12 (upd ((va_up f23 20 (upd (f23 20) (Int32.toNatClampNeg v_8) (v23 31))) 12) (Int32.toNatClampNeg (v 30)) v_32)) := RIb.w12 hR hb9
    refine W.widen (k := 0) (n := 0) (Nat.le_of_ble_eq_true rfl) (Nat.le_of_ble_eq_true rfl) ?_
    exact W.vret hx hb hr (fun t ht9 hW => ⟨⟨(v23, nm23, (va_up (va_up f23 20 (upd (f23 20) (Int32.toNatClampNeg v_8) (v23 31))) 12 (upd ((va_up f23 20 (upd (f23 20) (Int32.toNatClampNeg v_8) (v23 31))) 12) (Int32.toNatClampNeg (v 30)) v_32)), (va_up g23 23 (vp_updL (g23 23) (Int32.toNatClampNeg v_8) r_u_14))), rfl, ⟨hv, hf, hR, hL, hV_0, hF_0, (show (v23 7).toInt ≤ (v 3).toInt ∧ ((v23 4).toInt ≠ 0 ∨ (v 4).toInt = 0) from by first | omega | (subst_vars; first | rfl | omega)), (show 0 ≤ mz (v 3).toInt (v23 7).toInt (v23 8).toInt ∧ mz (v 3).toInt (v23 7).toInt (v23 8).toInt ≤ mz (v 3).toInt (v 7).toInt (v 8).toInt from by omega), (show (v23 4).toInt = 0 → PB (v 30).toInt (v23 31).toInt ((f23 13) (Int32.toNatClampNeg (v 30))).toInt ((va_up (va_up f23 20 (upd (f23 20) (Int32.toNatClampNeg v_8) (v23 31))) 12 (upd ((va_up f23 20 (upd (f23 20) (Int32.toNatClampNeg v_8) (v23 31))) 12) (Int32.toNatClampNeg (v 30)) v_32)) 12) ((va_up (va_up f23 20 (upd (f23 20) (Int32.toNatClampNeg v_8) (v23 31))) 12 (upd ((va_up f23 20 (upd (f23 20) (Int32.toNatClampNeg v_8) (v23 31))) 12) (Int32.toNatClampNeg (v 30)) v_32)) 19) ((va_up (va_up f23 20 (upd (f23 20) (Int32.toNatClampNeg v_8) (v23 31))) 12 (upd ((va_up f23 20 (upd (f23 20) (Int32.toNatClampNeg v_8) (v23 31))) 12) (Int32.toNatClampNeg (v 30)) v_32)) 20) (f23 24) (f23 25) (Int32.toNatClampNeg (v 30)) from by rw [(show (va_up (va_up f23 20 (upd (f23 20) (Int32.toNatClampNeg v_8) (v23 31))) 12 (upd ((va_up f23 20 (upd (f23 20) (Int32.toNatClampNeg v_8) (v23 31))) 12) (Int32.toNatClampNeg (v 30)) v_32)) 12 = (upd (f 12) (Int32.toNatClampNeg (v 30)) v_32) from (congrArg (fun z : Nat → Int32 => upd z (Int32.toNatClampNeg (v 30)) v_32) (xu_23F 12 (by decide)))), (show (va_up (va_up f23 20 (upd (f23 20) (Int32.toNatClampNeg v_8) (v23 31))) 12 (upd ((va_up f23 20 (upd (f23 20) (Int32.toNatClampNeg v_8) (v23 31))) 12) (Int32.toNatClampNeg (v 30)) v_32)) 19 = (upd (f 19) (Int32.toNatClampNeg v_8) (v 31)) from (xu_23F 19 (by decide))), (show (va_up (va_up f23 20 (upd (f23 20) (Int32.toNatClampNeg v_8) (v23 31))) 12 (upd ((va_up f23 20 (upd (f23 20) (Int32.toNatClampNeg v_8) (v23 31))) 12) (Int32.toNatClampNeg (v 30)) v_32)) 20 = (upd (f 20) (Int32.toNatClampNeg v_8) (v23 31)) from (congrArg (fun z : Nat → Int32 => upd z (Int32.toNatClampNeg v_8) (v23 31)) (xu_23F 20 (by decide))))]; exact fun h9 => PB.add hPB (by rw [ow_tn]; omega) (by omega) (by have a1 := ow_tn v_8; have a2 := ow_tn (v 30); omega) (by omega) rfl rfl xu_23_O (xu_23_E h9).1 (xu_23_E h9).2.1 (xu_23_E h9).2.2 rgU2.2)⟩, ⟨by rw [ht9]; exact hP, hD⟩⟩, hS.F ht9⟩) hS.2.2 dX12_readLock_134
  refine lv_if_lt (tgt := 50) hx hb dX12_readLock_43 (by decide) (fun c_35 => ?_) (fun c_35 => ?_)
  · have q_36 : r_u_12.toInt < (0 : Int32).toInt := (ow_lt _ _).mp c_35
    refine lv_iconst (v := 0) hx hb dX12_readLock_50 (by decide) ?_
    refine W.widen (k := 0) (n := 0) (Nat.le_of_ble_eq_true rfl) (Nat.le_of_ble_eq_true rfl) ?_
    exact jn_13 (0) _ _ _ (by omega) hP hD hS (lv_sub hl [0, 1] rfl)
  · have q_37 : (0 : Int32).toInt ≤ r_u_12.toInt := by have := (not_congr (ow_lt _ _)).mp c_35; omega
    refine lv_iconst (v := 1) hx hb dX12_readLock_46 (by decide) ?_
    refine lv_goto (tgt := 51) hx hb dX12_readLock_47 (by decide) ?_
    refine W.widen (k := 0) (n := 0) (Nat.le_of_ble_eq_true rfl) (Nat.le_of_ble_eq_true rfl) ?_
    exact jn_13 (1) _ _ _ (by omega) hP hD hS (lv_sub hl [0, 1] rfl)
set_option maxHeartbeats 4000000 in
set_option maxRecDepth 100000 in
theorem m_readLine (l : Launch) (G : va_G) (cy : Nat → ClassId) (sz : Nat) (mo : Nat) (h : Nat → Nat) (T : Int) (v : Nat → Int32) (nm : Int64) (f : Nat → Nat → Int32) (g : Nat → Nat → Int64)   (hv : MIv T v) (hf : MIf f) (hR : RI v f) (hL : WL v f) (he : (v 7).toInt ≤ (v 3).toInt) (hrb : (v 30).toInt + (v 29).toInt = 1) (hfk : (v 4).toInt = 0) (htk : (v 8).toInt ≠ 0) (hPB : PB (v 30).toInt (v 31).toInt (f 13 (Int32.toNatClampNeg (v 30))).toInt (f 12) (f 19) (f 20) (f 24) (f 25) (Int32.toNatClampNeg (v 30))) : Met l yX12_readLine (.code yX12_readLine cX12_readLine 3 none :: TBg) ({ frames := 7, cells := 0, slots := 0, locals := 448 }) (va_Pc [.ref mo] (En G cy (WMs cy mo h v nm f g) sz)) (va_Qv (fun (u : (Nat → Int32) × Int64 × (Nat → Nat → Int32) × (Nat → Nat → Int64)) => MIv T u.1 ∧ MIf u.2.2.1 ∧ RI u.1 u.2.2.1 ∧ WL u.1 u.2.2.1 ∧ FV [4, 5, 6, 7, 8, 9, 31, 32, 33] v u.1 ∧ FF [11, 12, 13, 14, 15, 16, 17, 18, 19, 20, 21, 24, 25, 26, 27] f u.2.2.1 ∧ (((u.1 7).toInt ≤ (v 3).toInt)) ∧ (0 ≤ mz (v 3).toInt (u.1 7).toInt (u.1 8).toInt ∧ mz (v 3).toInt (u.1 7).toInt (u.1 8).toInt ≤ mz (v 3).toInt (v 7).toInt (v 8).toInt ∧ ((u.1 4).toInt ≠ 0 ∨ mz (v 3).toInt (u.1 7).toInt (u.1 8).toInt < mz (v 3).toInt (v 7).toInt (v 8).toInt)) ∧ ((u.1 4).toInt = 0 → PB (v 30).toInt (u.1 31).toInt (u.2.2.1 13 (Int32.toNatClampNeg (v 30))).toInt (u.2.2.1 12) (u.2.2.1 19) (u.2.2.1 20) (u.2.2.1 24) (u.2.2.1 25) (Int32.toNatClampNeg (v 30)))) (fun u t => Ex G (va_A (WMs cy mo h v nm f g) sz) (WMs cy mo h u.1 u.2.1 u.2.2.1 u.2.2.2) t) (va_A (WMs cy mo h v nm f g) sz)) 0 0 (va_A (WMs cy mo h v nm f g) sz) := by
  refine Met.ofW (cc := cX12_readLine) (maxL := 3) (ret := none) (by decide) rfl ?_
  intro p e s m args below meth c s₁ B hml hv9
  obtain ⟨rfl, hsz, hP, hK, hD0, hN⟩ := hv9
  have hx := B.exec
  have hb := B.bytes
  have hr := B.returns
  have hts := atoms_spec (ws := .code yX12_readLine cX12_readLine 3 none :: TBg) B.pre
  have ht : ∀ w ∈ TBg, w.before _ s = true := fun w h => hts w (List.mem_cons_of_mem _ h)
  have hown : s.vm.findClass RX12 = some m.cls := findClass_of_methodNamed B.named
  have hlocks := B.notSynchronized
  subst hsz
  have hD := hD0.self (sz := s.heap.size)
  generalize hAe : va_A (WMs cy mo h v nm f g) s.heap.size = A at hD ⊢
  have hA : ∀ q : Nat, s.heap.size ≤ q → A q := fun q h => by rw [← hAe]; exact Or.inr h
  have hS : va_S A s.heap s.heap [] := va_S.rf
  have hl := lv_entry ([.ref mo]) (n := 3) (Nat.le_of_ble_eq_true rfl)
  rw [lg_entry_eq]
  generalize (lg_sl ([.ref mo]) ++ List.replicate (3 - (lg_sl ([.ref mo])).length) Slot.unset).toArray = ls at hl ⊢
  have hl : lv_has ls 3 [(0, .ref mo)] := hl
  have z0 : (0 : Int32).toInt = 0 := by decide
  have z1 : (3 : Int32).toInt = 3 := by decide
  have z2 : (59 : Int32).toInt = 59 := by decide
  have hf_0 := hf
  have hV_0 : FV [4, 5, 6, 7, 8, 9, 31, 32, 33] v v := FV.rf
  have hF_0 : FF [11, 12, 13, 14, 15, 16, 17, 18, 19, 20, 21, 24, 25, 26, 27] f f := FF.rf
  have hmz0 : 0 ≤ mz (v 3).toInt (v 7).toInt (v 8).toInt := mz_nn he
  have hv0 := hv
  refine lv_aload_n hx hb dX12_readLine_0 rfl (lv_at hl 0 rfl) ?_
  refine mg_10 hx hb ht hown hK hP dX12_readLine_1 ?_
  refine lv_lstore_n (lv' := [(1, .long nm), (0, .ref mo)]) hx hb dX12_readLine_4 rfl hl (by decide) rfl (fun ls hl => ?_)
  refine lv_aload_n hx hb dX12_readLine_5 rfl (lv_at hl 1 rfl) ?_
  refine mg_8 hx hb ht hown hK hP dX12_readLine_6 ?_
  refine lv_iconst (v := 3) hx hb dX12_readLine_9 (by decide) ?_
  refine lv_icmp_ne (tgt := 20) hx hb dX12_readLine_10 (by decide) (fun c_1 => ?_) (fun c_1 => ?_)
  · have q_2 : ¬ (v 8).toInt = (3 : Int32).toInt := by have := (not_congr (ow_eq _ _)).mp c_1; omega
    refine lv_aload_n hx hb dX12_readLine_20 rfl (lv_at hl 1 rfl) ?_
    have hFc := fr_free hD hS hA
    refine va_callv (va_runV (As := []) (rest := []) ⟨hx, hb, hml, hown, ht⟩ (m_misplaced l G cy _ mo h T v nm f g   hv hf hR hL) (cwV 0 ht (gv k_228 k_229 k_230 k_61 k_227) rfl rfl rfl (by decide +kernel) ⟨Nat.le_of_ble_eq_true rfl, Nat.le_of_ble_eq_true rfl⟩) ⟨En.blind, va_recv hK hP (ci := 12) (q0 := 0) rfl rfl, fun U hU hW => ⟨rfl, En.of hU hW hP hK hD hN⟩⟩ rfl rfl hl.1 rfl (lv_room (Nat.le_of_ble_eq_true rfl)) dX12_readLine_21 ⟨Nat.le_of_ble_eq_true rfl, Nat.le_of_ble_eq_true rfl⟩) hS (fun q _ h => hFc q h) hFc (fun u_3 t9 H locs ht9 hvm hw hB hz1 hk1 hS => ?_)
    obtain ⟨v3, nm3⟩ := u_3
    obtain ⟨hP1, hD1⟩ := hB
    rw [ht9] at hP1
    obtain ⟨hv, xu_3V, wu_3⟩ := hw
    dsimp only at hv xu_3V wu_3
    have hP : va_P G vwCl (WMs cy mo h v3 nm3 f g) H := hP1
    have hD : va_D A (WMs cy mo h v3 nm3 f g) := hD1.weaken (fun _ _ _ h => hFc _ h)
    replace hR : RI v3 f := RI.fv hR xu_3V (by decide)
    replace hL : WL v3 f := WL.fv hL xu_3V (by decide) (by decide)
    replace hV_0 := FV.tr hV_0 xu_3V (by decide)
    clear hFc hk1 hz1 hP1 hD1
    replace wu_3 : (1 ≤ (v3 4).toInt) := wu_3
    refine lv_aload_n hx hb dX12_readLine_24 rfl (lv_at hl 1 rfl) ?_
    have hFc := fr_new hS hA
    refine va_calli (va_runV (As := []) (rest := []) ⟨hx, hb, hml, hown, ht⟩ (m_isGood l G cy _ mo h T v3 nm3 f g   hv hf hR hL) (cwV 0 ht (gv k_224 k_225 k_226 k_61 k_223) rfl rfl rfl (by decide +kernel) ⟨Nat.le_of_ble_eq_true rfl, Nat.le_of_ble_eq_true rfl⟩) ⟨En.blind, va_recv hK hP (ci := 12) (q0 := 0) rfl rfl, fun U hU hW => ⟨rfl, En.of hU hW hP hK hD hN⟩⟩ rfl rfl hl.1 rfl (lv_room (Nat.le_of_ble_eq_true rfl)) dX12_readLine_25 ⟨Nat.le_of_ble_eq_true rfl, Nat.le_of_ble_eq_true rfl⟩) hS (fun q _ h => hFc q h) hFc (fun r_u_4 u_4 t9 H locs ht9 hvm hw hB hz1 hk1 hS => ?_)
    have hP := fr_keep hP hk1
    have wu_4 := hw
    clear hFc hk1 hz1 hB hw
    replace wu_4 : (r_u_4.toInt = 0 ∨ r_u_4.toInt = 1) ∧ ((r_u_4.toInt = 1 ∧ (v3 4).toInt = 0) ∨ (r_u_4.toInt = 0 ∧ (v3 4).toInt ≠ 0)) := wu_4
    refine lv_if_ne (tgt := 32) hx hb dX12_readLine_28 (by decide) (fun c_5 => ?_) (fun c_5 => ?_)
    · have q_6 : ¬ r_u_4.toInt = (0 : Int32).toInt := by have := (not_congr (ow_eq _ _)).mp c_5; omega
      exfalso
      omega
    · have q_7 : r_u_4.toInt = (0 : Int32).toInt := (ow_eq _ _).mp c_5
      refine W.widen (k := 0) (n := 0) (Nat.le_of_ble_eq_true rfl) (Nat.le_of_ble_eq_true rfl) ?_
      exact W.vret hx hb hr (fun t ht9 hW => ⟨⟨(v3, nm3, f, g), rfl, ⟨hv, hf, hR, hL, hV_0, hF_0, (show (v3 7).toInt ≤ (v 3).toInt from by rw [(show v3 7 = (v 7) from (xu_3V 7 (by decide)))]; first | omega | (subst_vars; first | rfl | omega)), (show 0 ≤ mz (v 3).toInt (v3 7).toInt (v3 8).toInt ∧ mz (v 3).toInt (v3 7).toInt (v3 8).toInt ≤ mz (v 3).toInt (v 7).toInt (v 8).toInt ∧ ((v3 4).toInt ≠ 0 ∨ mz (v 3).toInt (v3 7).toInt (v3 8).toInt < mz (v 3).toInt (v 7).toInt (v 8).toInt) from by rw [(show v3 7 = (v 7) from (xu_3V 7 (by decide))), (show v3 8 = (v 8) from (xu_3V 8 (by decide)))]; omega), (show (v3 4).toInt = 0 → PB (v 30).toInt (v3 31).toInt ((f 13) (Int32.toNatClampNeg (v 30))).toInt (f 12) (f 19) (f 20) (f 24) (f 25) (Int32.toNatClampNeg (v 30)) from by rw [(show v3 31 = (v 31) from (xu_3V 31 (by decide)))]; exact fun h9 => absurd h9 (by omega))⟩, ⟨by rw [ht9]; exact hP, hD⟩⟩, hS.F ht9⟩) hS.2.2 dX12_readLine_31
  · have q_8 : (v 8).toInt = (3 : Int32).toInt := (ow_eq _ _).mp c_1
    refine lv_aload_n hx hb dX12_readLine_13 rfl (lv_at hl 1 rfl) ?_
    have hFc := fr_new hS hA
    refine va_calli (va_runV (As := []) (rest := []) ⟨hx, hb, hml, hown, ht⟩ (m_isFull l G cy _ mo h T v nm f g   hv hf hR hL (show (v 8).toInt = 3 from by omega)) (cwV 0 ht (gv k_296 k_297 k_298 k_61 k_295) rfl rfl rfl (by decide +kernel) ⟨Nat.le_of_ble_eq_true rfl, Nat.le_of_ble_eq_true rfl⟩) ⟨En.blind, va_recv hK hP (ci := 12) (q0 := 0) rfl rfl, fun U hU hW => ⟨rfl, En.of hU hW hP hK hD hN⟩⟩ rfl rfl hl.1 rfl (lv_room (Nat.le_of_ble_eq_true rfl)) dX12_readLine_14 ⟨Nat.le_of_ble_eq_true rfl, Nat.le_of_ble_eq_true rfl⟩) hS (fun q _ h => hFc q h) hFc (fun r_u_9 u_9 t9 H locs ht9 hvm hw hB hz1 hk1 hS => ?_)
    have hP := fr_keep hP hk1
    obtain ⟨wu_9, xu_9_F⟩ := hw
    clear hFc hk1 hz1 hB
    replace wu_9 : (r_u_9.toInt = 0 ∨ r_u_9.toInt = 1) := wu_9
    replace xu_9_F : r_u_9.toInt = 0 → (nm = 1953853029 → ¬ ((f 11) (Int32.toNatClampNeg (v 30))).toInt = 14) ∧ (nm = 1819239275 → ¬ ((f 12) (Int32.toNatClampNeg (v 30))).toInt = 8) := by
      have h9 : r_u_9.toInt = 0 → (nm = 1953853029 → ¬ ((f 11) (Int32.toNatClampNeg (v 30))).toInt = 14) ∧ (nm = 1819239275 → ¬ ((f 12) (Int32.toNatClampNeg (v 30))).toInt = 8) := xu_9_F
      exact h9
    refine lv_if_eq (tgt := 24) hx hb dX12_readLine_17 (by decide) (fun c_10 => ?_) (fun c_10 => ?_)
    · have q_11 : r_u_9.toInt = (0 : Int32).toInt := (ow_eq _ _).mp c_10
      refine lv_aload_n hx hb dX12_readLine_24 rfl (lv_at hl 1 rfl) ?_
      have hFc := fr_new hS hA
      refine va_calli (va_runV (As := []) (rest := []) ⟨hx, hb, hml, hown, ht⟩ (m_isGood l G cy _ mo h T v nm f g   hv hf hR hL) (cwV 0 ht (gv k_224 k_225 k_226 k_61 k_223) rfl rfl rfl (by decide +kernel) ⟨Nat.le_of_ble_eq_true rfl, Nat.le_of_ble_eq_true rfl⟩) ⟨En.blind, va_recv hK hP (ci := 12) (q0 := 0) rfl rfl, fun U hU hW => ⟨rfl, En.of hU hW hP hK hD hN⟩⟩ rfl rfl hl.1 rfl (lv_room (Nat.le_of_ble_eq_true rfl)) dX12_readLine_25 ⟨Nat.le_of_ble_eq_true rfl, Nat.le_of_ble_eq_true rfl⟩) hS (fun q _ h => hFc q h) hFc (fun r_u_12 u_12 t9 H locs ht9 hvm hw hB hz1 hk1 hS => ?_)
      have hP := fr_keep hP hk1
      have wu_12 := hw
      clear hFc hk1 hz1 hB hw
      refine lv_if_ne (tgt := 32) hx hb dX12_readLine_28 (by decide) (fun c_13 => ?_) (fun c_13 => ?_)
      · have q_14 : ¬ r_u_12.toInt = (0 : Int32).toInt := by have := (not_congr (ow_eq _ _)).mp c_13; omega
        refine lv_aload_n hx hb dX12_readLine_32 rfl (lv_at hl 1 rfl) ?_
        have hFc := fr_free hD hS hA
        refine va_callv (va_runV (As := []) (rest := []) ⟨hx, hb, hml, hown, ht⟩ (m_goOn l G cy _ mo h T v nm f g   hv hf hR hL (show (v 7).toInt ≤ (v 3).toInt from by omega)) (cwV 0 ht (gv k_232 k_233 k_234 k_61 k_231) rfl rfl rfl (by decide +kernel) ⟨Nat.le_of_ble_eq_true rfl, Nat.le_of_ble_eq_true rfl⟩) ⟨En.blind, va_recv hK hP (ci := 12) (q0 := 0) rfl rfl, fun U hU hW => ⟨rfl, En.of hU hW hP hK hD hN⟩⟩ rfl rfl hl.1 rfl (lv_room (Nat.le_of_ble_eq_true rfl)) dX12_readLine_33 ⟨Nat.le_of_ble_eq_true rfl, Nat.le_of_ble_eq_true rfl⟩) hS (fun q _ h => hFc q h) hFc (fun u_15 t9 H locs ht9 hvm hw hB hz1 hk1 hS => ?_)
        obtain ⟨v15, nm15⟩ := u_15
        obtain ⟨hP1, hD1⟩ := hB
        rw [ht9] at hP1
        obtain ⟨hv, xu_15V, wu_15, xu_15_M⟩ := hw
        dsimp only at hv xu_15V wu_15 xu_15_M
        have hP : va_P G vwCl (WMs cy mo h v15 nm15 f g) H := hP1
        have hD : va_D A (WMs cy mo h v15 nm15 f g) := hD1.weaken (fun _ _ _ h => hFc _ h)
        replace hR : RI v15 f := RI.fv hR xu_15V (by decide)
        replace hL : WL v15 f := WL.fv hL xu_15V (by decide) (by decide)
        replace hV_0 := FV.tr hV_0 xu_15V (by decide)
        clear hFc hk1 hz1 hP1 hD1
        replace wu_15 : ((v15 7).toInt ≤ (v 3).toInt ∧ (((v15 8).toInt = 0 ∧ (v15 7).toInt = (v 3).toInt) ∨ ((v15 8).toInt ≠ 0 ∧ (v 7).toInt < (v15 7).toInt))) := wu_15
        replace xu_15_M : 0 ≤ mz (v 3).toInt (v15 7).toInt (v15 8).toInt ∧ mz (v 3).toInt (v15 7).toInt (v15 8).toInt ≤ mz (v 3).toInt (v 7).toInt (v 8).toInt ∧ ((v 8).toInt = 0 ∨ mz (v 3).toInt (v15 7).toInt (v15 8).toInt < mz (v 3).toInt (v 7).toInt (v 8).toInt) := by
          have h9 : 0 ≤ mz (v 3).toInt (v15 7).toInt (v15 8).toInt ∧ mz (v 3).toInt (v15 7).toInt (v15 8).toInt ≤ mz (v 3).toInt (v 7).toInt (v 8).toInt ∧ ((v 8).toInt = 0 ∨ mz (v 3).toInt (v15 7).toInt (v15 8).toInt < mz (v 3).toInt (v 7).toInt (v 8).toInt) := xu_15_M
          exact h9
        refine lv_lload_n hx hb dX12_readLine_36 rfl (lv_at hl 0 rfl) ?_
        refine lv_ldc2 (v := 1953853029) hx hb hown (ht _ k_198) dX12_readLine_37 ?_
        refine W.lcmp hx hb dX12_readLine_40 ?_
        refine lv_topi (fun v_16 ev_16 => ?_)
        refine lv_if_ne (tgt := 48) hx hb dX12_readLine_41 (by decide) (fun c_17 => ?_) (fun c_17 => ?_)
        · have q_18 : ¬ v_16.toInt = (0 : Int32).toInt := by have := (not_congr (ow_eq _ _)).mp c_17; omega
          have lc_19 : ¬ nm = (1953853029 : Int64) := fun h9 => q_18 (by rw [ev_16, (lg_cmp_eq _ _).mpr h9])
          refine lv_lload_n hx hb dX12_readLine_48 rfl (lv_at hl 0 rfl) ?_
          refine lv_ldc2 (v := 1819239275) hx hb hown (ht _ k_200) dX12_readLine_49 ?_
          refine W.lcmp hx hb dX12_readLine_52 ?_
          refine lv_topi (fun v_20 ev_20 => ?_)
          refine lv_if_ne (tgt := 60) hx hb dX12_readLine_53 (by decide) (fun c_21 => ?_) (fun c_21 => ?_)
          · have q_22 : ¬ v_20.toInt = (0 : Int32).toInt := by have := (not_congr (ow_eq _ _)).mp c_21; omega
            have lc_23 : ¬ nm = (1819239275 : Int64) := fun h9 => q_22 (by rw [ev_20, (lg_cmp_eq _ _).mpr h9])
            refine lv_lload_n hx hb dX12_readLine_60 rfl (lv_at hl 0 rfl) ?_
            refine lv_ldc2 (v := 495924372852) hx hb hown (ht _ k_203) dX12_readLine_61 ?_
            refine W.lcmp hx hb dX12_readLine_64 ?_
            refine lv_topi (fun v_24 ev_24 => ?_)
            refine lv_if_ne (tgt := 72) hx hb dX12_readLine_65 (by decide) (fun c_25 => ?_) (fun c_25 => ?_)
            · have q_26 : ¬ v_24.toInt = (0 : Int32).toInt := by have := (not_congr (ow_eq _ _)).mp c_25; omega
              have lc_27 : ¬ nm = (495924372852 : Int64) := fun h9 => q_26 (by rw [ev_24, (lg_cmp_eq _ _).mpr h9])
              refine lv_aload_n hx hb dX12_readLine_72 rfl (lv_at hl 1 rfl) ?_
              refine lv_aload_n hx hb dX12_readLine_73 rfl (lv_at hl 1 rfl) ?_
              refine lv_bipush (v := 59) hx hb dX12_readLine_74 (by decide) ?_
              have hFc := fr_new hS hA
              refine va_calli (va_runV (As := [.int 59]) (rest := [.ref mo]) ⟨hx, hb, hml, hown, ht⟩ (m_stands l G cy _ mo h T v15 nm15 f g (59)  hv hf hR hL) (cwV 1 ht (gv k_244 k_245 k_246 k_61 k_243) rfl rfl rfl (by decide +kernel) ⟨Nat.le_of_ble_eq_true rfl, Nat.le_of_ble_eq_true rfl⟩) ⟨En.blind, va_recv hK hP (ci := 12) (q0 := 0) rfl rfl, fun U hU hW => ⟨rfl, En.of hU hW hP hK hD hN⟩⟩ rfl rfl hl.1 rfl (lv_room (Nat.le_of_ble_eq_true rfl)) dX12_readLine_76 ⟨Nat.le_of_ble_eq_true rfl, Nat.le_of_ble_eq_true rfl⟩) hS (fun q _ h => hFc q h) hFc (fun r_u_28 u_28 t9 H locs ht9 hvm hw hB hz1 hk1 hS => ?_)
              have hP := fr_keep hP hk1
              have wu_28 := hw
              clear hFc hk1 hz1 hB hw
              replace wu_28 : (r_u_28.toInt = 0 ∨ r_u_28.toInt = 1) ∧ (r_u_28.toInt = 0 ∨ (r_u_28.toInt = 1 ∧ (v15 8).toInt = 5 ∧ sgn (v 3).toInt (f 1) (v15 6).toInt = (59 : Int32).toInt)) := by
                have h9 : (r_u_28.toInt = 0 ∨ r_u_28.toInt = 1) ∧ (r_u_28.toInt = 0 ∨ (r_u_28.toInt = 1 ∧ (v15 8).toInt = 5 ∧ sgn (v15 3).toInt (f 1) (v15 6).toInt = (59 : Int32).toInt)) := wu_28
                rw [(show v15 3 = (v 3) from (xu_15V 3 (by decide)))] at h9
                exact h9
              have hFc := fr_free hD hS hA
              refine va_callv (va_runV (As := [.int r_u_28]) (rest := []) ⟨hx, hb, hml, hown, ht⟩ (m_must l G cy _ mo h T v15 nm15 f g r_u_28  hv hf hR hL (by omega) (show (v15 7).toInt ≤ (v15 3).toInt from by rw [(show v15 3 = (v 3) from (xu_15V 3 (by decide)))]; omega)) (cwV 1 ht (gv k_268 k_269 k_270 k_61 k_267) rfl rfl rfl (by decide +kernel) ⟨Nat.le_of_ble_eq_true rfl, Nat.le_of_ble_eq_true rfl⟩) ⟨En.blind, va_recv hK hP (ci := 12) (q0 := 0) rfl rfl, fun U hU hW => ⟨rfl, En.of hU hW hP hK hD hN⟩⟩ rfl rfl hl.1 rfl (lv_room (Nat.le_of_ble_eq_true rfl)) dX12_readLine_79 ⟨Nat.le_of_ble_eq_true rfl, Nat.le_of_ble_eq_true rfl⟩) hS (fun q _ h => hFc q h) hFc (fun u_29 t9 H locs ht9 hvm hw hB hz1 hk1 hS => ?_)
              obtain ⟨v29, nm29⟩ := u_29
              obtain ⟨hP1, hD1⟩ := hB
              rw [ht9] at hP1
              obtain ⟨hv, xu_29V, wu_29, xu_29_M⟩ := hw
              dsimp only at hv xu_29V wu_29 xu_29_M
              have hP : va_P G vwCl (WMs cy mo h v29 nm29 f g) H := hP1
              have hD : va_D A (WMs cy mo h v29 nm29 f g) := hD1.weaken (fun _ _ _ h => hFc _ h)
              replace hR : RI v29 f := RI.fv hR xu_29V (by decide)
              replace hL : WL v29 f := WL.fv hL xu_29V (by decide) (by decide)
              replace hV_0 := FV.tr hV_0 xu_29V (by decide)
              clear hFc hk1 hz1 hP1 hD1
              replace wu_29 : ((v29 7).toInt ≤ (v 3).toInt ∧ ((v29 4).toInt ≠ 0 ∨ (v 4).toInt = 0)) := by
                have h9 : ((v29 7).toInt ≤ (v15 3).toInt ∧ ((v29 4).toInt ≠ 0 ∨ (v15 4).toInt = 0)) := wu_29
                rw [(show v15 3 = (v 3) from (xu_15V 3 (by decide))), (show v15 4 = (v 4) from (xu_15V 4 (by decide)))] at h9
                exact h9
              replace xu_29_M : 0 ≤ mz (v 3).toInt (v29 7).toInt (v29 8).toInt ∧ mz (v 3).toInt (v29 7).toInt (v29 8).toInt ≤ mz (v 3).toInt (v15 7).toInt (v15 8).toInt := by
                have h9 : 0 ≤ mz (v15 3).toInt (v29 7).toInt (v29 8).toInt ∧ mz (v15 3).toInt (v29 7).toInt (v29 8).toInt ≤ mz (v15 3).toInt (v15 7).toInt (v15 8).toInt := xu_29_M
                rw [(show v15 3 = (v 3) from (xu_15V 3 (by decide)))] at h9
                exact h9
              refine W.widen (k := 0) (n := 0) (Nat.le_of_ble_eq_true rfl) (Nat.le_of_ble_eq_true rfl) ?_
              exact W.vret hx hb hr (fun t ht9 hW => ⟨⟨(v29, nm29, f, g), rfl, ⟨hv, hf, hR, hL, hV_0, hF_0, (show (v29 7).toInt ≤ (v 3).toInt from by first | omega | (subst_vars; first | rfl | omega)), (show 0 ≤ mz (v 3).toInt (v29 7).toInt (v29 8).toInt ∧ mz (v 3).toInt (v29 7).toInt (v29 8).toInt ≤ mz (v 3).toInt (v 7).toInt (v 8).toInt ∧ ((v29 4).toInt ≠ 0 ∨ mz (v 3).toInt (v29 7).toInt (v29 8).toInt < mz (v 3).toInt (v 7).toInt (v 8).toInt) from by omega), (show (v29 4).toInt = 0 → PB (v 30).toInt (v29 31).toInt ((f 13) (Int32.toNatClampNeg (v 30))).toInt (f 12) (f 19) (f 20) (f 24) (f 25) (Int32.toNatClampNeg (v 30)) from by rw [(show v29 31 = (v 31) from ((xu_29V 31 (by decide)).trans (xu_15V 31 (by decide))))]; exact fun h9 => hPB)⟩, ⟨by rw [ht9]; exact hP, hD⟩⟩, hS.F ht9⟩) hS.2.2 dX12_readLine_82
            · have q_30 : v_24.toInt = (0 : Int32).toInt := (ow_eq _ _).mp c_25
              have lc_31 : nm = (495924372852 : Int64) := (lg_cmp_eq _ _).mp (by rw [← ev_24]; exact (ow_eq _ _).mpr (by omega))
              refine lv_aload_n hx hb dX12_readLine_68 rfl (lv_at hl 1 rfl) ?_
              have hFc := fr_free hD hS hA
              refine va_callv (va_runV (As := []) (rest := []) ⟨hx, hb, hml, hown, ht⟩ (m_readSweet l G cy _ mo h T v15 nm15 f g   hv hf hR hL (show (v15 7).toInt ≤ (v15 3).toInt from by rw [(show v15 3 = (v 3) from (xu_15V 3 (by decide)))]; omega)) (cwV 0 ht (gv k_300 k_301 k_302 k_61 k_299) rfl rfl rfl (by decide +kernel) ⟨Nat.le_of_ble_eq_true rfl, Nat.le_of_ble_eq_true rfl⟩) ⟨En.blind, va_recv hK hP (ci := 12) (q0 := 0) rfl rfl, fun U hU hW => ⟨rfl, En.of hU hW hP hK hD hN⟩⟩ rfl rfl hl.1 rfl (lv_room (Nat.le_of_ble_eq_true rfl)) dX12_readLine_69 ⟨Nat.le_of_ble_eq_true rfl, Nat.le_of_ble_eq_true rfl⟩) hS (fun q _ h => hFc q h) hFc (fun u_32 t9 H locs ht9 hvm hw hB hz1 hk1 hS => ?_)
              obtain ⟨v32, nm32, f32, g32⟩ := u_32
              obtain ⟨hP1, hD1⟩ := hB
              rw [ht9] at hP1
              obtain ⟨hv, hf, hR, hL, xu_32V, xu_32F, wu_32, xu_32_M⟩ := hw
              have hP : va_P G vwCl (WMs cy mo h v32 nm32 f32 g32) H := hP1
              have hD : va_D A (WMs cy mo h v32 nm32 f32 g32) := hD1.weaken (fun _ _ _ h => hFc _ h)
              dsimp only at hv hf hR hL wu_32 xu_32V xu_32F xu_32_M
              clear hFc hk1 hz1 hP1 hD1
              replace hV_0 := FV.tr hV_0 xu_32V (by decide)
              replace hF_0 := FF.tr hF_0 xu_32F (by decide)
              replace wu_32 : ((v32 7).toInt ≤ (v 3).toInt ∧ ((v32 4).toInt ≠ 0 ∨ (v 4).toInt = 0)) := by
                have h9 : ((v32 7).toInt ≤ (v15 3).toInt ∧ ((v32 4).toInt ≠ 0 ∨ (v15 4).toInt = 0)) := wu_32
                rw [(show v15 3 = (v 3) from (xu_15V 3 (by decide))), (show v15 4 = (v 4) from (xu_15V 4 (by decide)))] at h9
                exact h9
              replace xu_32_M : 0 ≤ mz (v 3).toInt (v32 7).toInt (v32 8).toInt ∧ mz (v 3).toInt (v32 7).toInt (v32 8).toInt ≤ mz (v 3).toInt (v15 7).toInt (v15 8).toInt := by
                have h9 : 0 ≤ mz (v15 3).toInt (v32 7).toInt (v32 8).toInt ∧ mz (v15 3).toInt (v32 7).toInt (v32 8).toInt ≤ mz (v15 3).toInt (v15 7).toInt (v15 8).toInt := xu_32_M
                rw [(show v15 3 = (v 3) from (xu_15V 3 (by decide)))] at h9
                exact h9
              refine lv_aload_n hx hb dX12_readLine_72 rfl (lv_at hl 1 rfl) ?_
              refine lv_aload_n hx hb dX12_readLine_73 rfl (lv_at hl 1 rfl) ?_
              refine lv_bipush (v := 59) hx hb dX12_readLine_74 (by decide) ?_
              have hFc := fr_new hS hA
              refine va_calli (va_runV (As := [.int 59]) (rest := [.ref mo]) ⟨hx, hb, hml, hown, ht⟩ (m_stands l G cy _ mo h T v32 nm32 f32 g32 (59)  hv hf hR hL) (cwV 1 ht (gv k_244 k_245 k_246 k_61 k_243) rfl rfl rfl (by decide +kernel) ⟨Nat.le_of_ble_eq_true rfl, Nat.le_of_ble_eq_true rfl⟩) ⟨En.blind, va_recv hK hP (ci := 12) (q0 := 0) rfl rfl, fun U hU hW => ⟨rfl, En.of hU hW hP hK hD hN⟩⟩ rfl rfl hl.1 rfl (lv_room (Nat.le_of_ble_eq_true rfl)) dX12_readLine_76 ⟨Nat.le_of_ble_eq_true rfl, Nat.le_of_ble_eq_true rfl⟩) hS (fun q _ h => hFc q h) hFc (fun r_u_33 u_33 t9 H locs ht9 hvm hw hB hz1 hk1 hS => ?_)
              have hP := fr_keep hP hk1
              have wu_33 := hw
              clear hFc hk1 hz1 hB hw
              replace wu_33 : (r_u_33.toInt = 0 ∨ r_u_33.toInt = 1) ∧ (r_u_33.toInt = 0 ∨ (r_u_33.toInt = 1 ∧ (v32 8).toInt = 5 ∧ sgn (v 3).toInt (f 1) (v32 6).toInt = (59 : Int32).toInt)) := by
                have h9 : (r_u_33.toInt = 0 ∨ r_u_33.toInt = 1) ∧ (r_u_33.toInt = 0 ∨ (r_u_33.toInt = 1 ∧ (v32 8).toInt = 5 ∧ sgn (v32 3).toInt (f32 1) (v32 6).toInt = (59 : Int32).toInt)) := wu_33
                rw [(show v32 3 = (v 3) from ((xu_32V 3 (by decide)).trans (xu_15V 3 (by decide)))), (show f32 1 = (f 1) from (xu_32F 1 (by decide)))] at h9
                exact h9
              have hFc := fr_free hD hS hA
              refine va_callv (va_runV (As := [.int r_u_33]) (rest := []) ⟨hx, hb, hml, hown, ht⟩ (m_must l G cy _ mo h T v32 nm32 f32 g32 r_u_33  hv hf hR hL (by omega) (show (v32 7).toInt ≤ (v32 3).toInt from by rw [(show v32 3 = (v 3) from ((xu_32V 3 (by decide)).trans (xu_15V 3 (by decide))))]; omega)) (cwV 1 ht (gv k_268 k_269 k_270 k_61 k_267) rfl rfl rfl (by decide +kernel) ⟨Nat.le_of_ble_eq_true rfl, Nat.le_of_ble_eq_true rfl⟩) ⟨En.blind, va_recv hK hP (ci := 12) (q0 := 0) rfl rfl, fun U hU hW => ⟨rfl, En.of hU hW hP hK hD hN⟩⟩ rfl rfl hl.1 rfl (lv_room (Nat.le_of_ble_eq_true rfl)) dX12_readLine_79 ⟨Nat.le_of_ble_eq_true rfl, Nat.le_of_ble_eq_true rfl⟩) hS (fun q _ h => hFc q h) hFc (fun u_34 t9 H locs ht9 hvm hw hB hz1 hk1 hS => ?_)
              obtain ⟨v34, nm34⟩ := u_34
              obtain ⟨hP1, hD1⟩ := hB
              rw [ht9] at hP1
              obtain ⟨hv, xu_34V, wu_34, xu_34_M⟩ := hw
              dsimp only at hv xu_34V wu_34 xu_34_M
              have hP : va_P G vwCl (WMs cy mo h v34 nm34 f32 g32) H := hP1
              have hD : va_D A (WMs cy mo h v34 nm34 f32 g32) := hD1.weaken (fun _ _ _ h => hFc _ h)
              replace hR : RI v34 f32 := RI.fv hR xu_34V (by decide)
              replace hL : WL v34 f32 := WL.fv hL xu_34V (by decide) (by decide)
              replace hV_0 := FV.tr hV_0 xu_34V (by decide)
              clear hFc hk1 hz1 hP1 hD1
              replace wu_34 : ((v34 7).toInt ≤ (v 3).toInt ∧ ((v34 4).toInt ≠ 0 ∨ (v32 4).toInt = 0)) := by
                have h9 : ((v34 7).toInt ≤ (v32 3).toInt ∧ ((v34 4).toInt ≠ 0 ∨ (v32 4).toInt = 0)) := wu_34
                rw [(show v32 3 = (v 3) from ((xu_32V 3 (by decide)).trans (xu_15V 3 (by decide))))] at h9
                exact h9
              replace xu_34_M : 0 ≤ mz (v 3).toInt (v34 7).toInt (v34 8).toInt ∧ mz (v 3).toInt (v34 7).toInt (v34 8).toInt ≤ mz (v 3).toInt (v32 7).toInt (v32 8).toInt := by
                have h9 : 0 ≤ mz (v32 3).toInt (v34 7).toInt (v34 8).toInt ∧ mz (v32 3).toInt (v34 7).toInt (v34 8).toInt ≤ mz (v32 3).toInt (v32 7).toInt (v32 8).toInt := xu_34_M
                rw [(show v32 3 = (v 3) from ((xu_32V 3 (by decide)).trans (xu_15V 3 (by decide))))] at h9
                exact h9
              refine W.widen (k := 0) (n := 0) (Nat.le_of_ble_eq_true rfl) (Nat.le_of_ble_eq_true rfl) ?_
              exact W.vret hx hb hr (fun t ht9 hW => ⟨⟨(v34, nm34, f32, g32), rfl, ⟨hv, hf, hR, hL, hV_0, hF_0, (show (v34 7).toInt ≤ (v 3).toInt from by first | omega | (subst_vars; first | rfl | omega)), (show 0 ≤ mz (v 3).toInt (v34 7).toInt (v34 8).toInt ∧ mz (v 3).toInt (v34 7).toInt (v34 8).toInt ≤ mz (v 3).toInt (v 7).toInt (v 8).toInt ∧ ((v34 4).toInt ≠ 0 ∨ mz (v 3).toInt (v34 7).toInt (v34 8).toInt < mz (v 3).toInt (v 7).toInt (v 8).toInt) from by omega), (show (v34 4).toInt = 0 → PB (v 30).toInt (v34 31).toInt ((f32 13) (Int32.toNatClampNeg (v 30))).toInt (f32 12) (f32 19) (f32 20) (f32 24) (f32 25) (Int32.toNatClampNeg (v 30)) from by rw [(show v34 31 = (v 31) from ((xu_34V 31 (by decide)).trans ((xu_32V 31 (by decide)).trans (xu_15V 31 (by decide))))), (show f32 13 = (f 13) from (xu_32F 13 (by decide))), (show f32 12 = (f 12) from (xu_32F 12 (by decide))), (show f32 19 = (f 19) from (xu_32F 19 (by decide))), (show f32 20 = (f 20) from (xu_32F 20 (by decide))), (show f32 24 = (f 24) from (xu_32F 24 (by decide))), (show f32 25 = (f 25) from (xu_32F 25 (by decide)))]; exact fun h9 => hPB)⟩, ⟨by rw [ht9]; exact hP, hD⟩⟩, hS.F ht9⟩) hS.2.2 dX12_readLine_82
          · have q_35 : v_20.toInt = (0 : Int32).toInt := (ow_eq _ _).mp c_21
            have lc_36 : nm = (1819239275 : Int64) := (lg_cmp_eq _ _).mp (by rw [← ev_20]; exact (ow_eq _ _).mpr (by omega))
            have hT9 := (xu_9_F (by omega)).2 lc_36
            have rg30 : 0 ≤ (v 30).toInt ∧ (v 30).toInt ≤ 1 := hv0 30
            have rgT : 0 ≤ (f 12 (Int32.toNatClampNeg (v 30))).toInt ∧ (f 12 (Int32.toNatClampNeg (v 30))).toInt ≤ 8 := hf 12 _ (show (Int32.toNatClampNeg (v 30)) < 2 from by rw [ow_tn]; omega)
            refine lv_aload_n hx hb dX12_readLine_56 rfl (lv_at hl 1 rfl) ?_
            have hFc := fr_free hD hS hA
            refine va_callv (va_runV (As := []) (rest := []) ⟨hx, hb, hml, hown, ht⟩ (m_readLock l G cy _ mo h T v15 nm15 f g   hv hf hR hL (show (v15 7).toInt ≤ (v15 3).toInt from by rw [(show v15 3 = (v 3) from (xu_15V 3 (by decide)))]; omega) (show (v15 30).toInt + (v15 29).toInt = 1 from by rw [(show v15 30 = (v 30) from (xu_15V 30 (by decide))), (show v15 29 = (v 29) from (xu_15V 29 (by decide)))]; omega) (show ((f 12) (Int32.toNatClampNeg (v15 30))).toInt ≤ 7 from by rw [(show v15 30 = (v 30) from (xu_15V 30 (by decide)))]; omega) (show PB (v15 30).toInt (v15 31).toInt ((f 13) (Int32.toNatClampNeg (v15 30))).toInt (f 12) (f 19) (f 20) (f 24) (f 25) (Int32.toNatClampNeg (v15 30)) from by rw [(show v15 30 = (v 30) from (xu_15V 30 (by decide))), (show v15 31 = (v 31) from (xu_15V 31 (by decide)))]; exact hPB)) (cwV 0 ht (gv k_304 k_305 k_306 k_61 k_303) rfl rfl rfl (by decide +kernel) ⟨Nat.le_of_ble_eq_true rfl, Nat.le_of_ble_eq_true rfl⟩) ⟨En.blind, va_recv hK hP (ci := 12) (q0 := 0) rfl rfl, fun U hU hW => ⟨rfl, En.of hU hW hP hK hD hN⟩⟩ rfl rfl hl.1 rfl (lv_room (Nat.le_of_ble_eq_true rfl)) dX12_readLine_57 ⟨Nat.le_of_ble_eq_true rfl, Nat.le_of_ble_eq_true rfl⟩) hS (fun q _ h => hFc q h) hFc (fun u_37 t9 H locs ht9 hvm hw hB hz1 hk1 hS => ?_)
            obtain ⟨v37, nm37, f37, g37⟩ := u_37
            obtain ⟨hP1, hD1⟩ := hB
            rw [ht9] at hP1
            obtain ⟨hv, hf, hR, hL, xu_37V, xu_37F, wu_37, xu_37_M, xu_37_P⟩ := hw
            have hP : va_P G vwCl (WMs cy mo h v37 nm37 f37 g37) H := hP1
            have hD : va_D A (WMs cy mo h v37 nm37 f37 g37) := hD1.weaken (fun _ _ _ h => hFc _ h)
            dsimp only at hv hf hR hL wu_37 xu_37V xu_37F xu_37_M xu_37_P
            clear hFc hk1 hz1 hP1 hD1
            replace hV_0 := FV.tr hV_0 xu_37V (by decide)
            replace hF_0 := FF.tr hF_0 xu_37F (by decide)
            replace wu_37 : ((v37 7).toInt ≤ (v 3).toInt ∧ ((v37 4).toInt ≠ 0 ∨ (v 4).toInt = 0)) := by
              have h9 : ((v37 7).toInt ≤ (v15 3).toInt ∧ ((v37 4).toInt ≠ 0 ∨ (v15 4).toInt = 0)) := wu_37
              rw [(show v15 3 = (v 3) from (xu_15V 3 (by decide))), (show v15 4 = (v 4) from (xu_15V 4 (by decide)))] at h9
              exact h9
            replace xu_37_M : 0 ≤ mz (v 3).toInt (v37 7).toInt (v37 8).toInt ∧ mz (v 3).toInt (v37 7).toInt (v37 8).toInt ≤ mz (v 3).toInt (v15 7).toInt (v15 8).toInt := by
              have h9 : 0 ≤ mz (v15 3).toInt (v37 7).toInt (v37 8).toInt ∧ mz (v15 3).toInt (v37 7).toInt (v37 8).toInt ≤ mz (v15 3).toInt (v15 7).toInt (v15 8).toInt := xu_37_M
              rw [(show v15 3 = (v 3) from (xu_15V 3 (by decide)))] at h9
              exact h9
            replace xu_37_P : (v37 4).toInt = 0 → PB (v 30).toInt (v37 31).toInt ((f37 13) (Int32.toNatClampNeg (v 30))).toInt (f37 12) (f37 19) (f37 20) (f37 24) (f37 25) (Int32.toNatClampNeg (v 30)) := by
              have h9 : (v37 4).toInt = 0 → PB (v15 30).toInt (v37 31).toInt ((f37 13) (Int32.toNatClampNeg (v15 30))).toInt (f37 12) (f37 19) (f37 20) (f37 24) (f37 25) (Int32.toNatClampNeg (v15 30)) := xu_37_P
              rw [(show v15 30 = (v 30) from (xu_15V 30 (by decide)))] at h9
              exact h9
            refine lv_lload_n hx hb dX12_readLine_60 rfl (lv_at hl 0 rfl) ?_
            refine lv_ldc2 (v := 495924372852) hx hb hown (ht _ k_203) dX12_readLine_61 ?_
            refine W.lcmp hx hb dX12_readLine_64 ?_
            refine lv_topi (fun v_38 ev_38 => ?_)
            refine lv_if_ne (tgt := 72) hx hb dX12_readLine_65 (by decide) (fun c_39 => ?_) (fun c_39 => ?_)
            · have q_40 : ¬ v_38.toInt = (0 : Int32).toInt := by have := (not_congr (ow_eq _ _)).mp c_39; omega
              have lc_41 : ¬ nm = (495924372852 : Int64) := fun h9 => q_40 (by rw [ev_38, (lg_cmp_eq _ _).mpr h9])
              refine lv_aload_n hx hb dX12_readLine_72 rfl (lv_at hl 1 rfl) ?_
              refine lv_aload_n hx hb dX12_readLine_73 rfl (lv_at hl 1 rfl) ?_
              refine lv_bipush (v := 59) hx hb dX12_readLine_74 (by decide) ?_
              have hFc := fr_new hS hA
              refine va_calli (va_runV (As := [.int 59]) (rest := [.ref mo]) ⟨hx, hb, hml, hown, ht⟩ (m_stands l G cy _ mo h T v37 nm37 f37 g37 (59)  hv hf hR hL) (cwV 1 ht (gv k_244 k_245 k_246 k_61 k_243) rfl rfl rfl (by decide +kernel) ⟨Nat.le_of_ble_eq_true rfl, Nat.le_of_ble_eq_true rfl⟩) ⟨En.blind, va_recv hK hP (ci := 12) (q0 := 0) rfl rfl, fun U hU hW => ⟨rfl, En.of hU hW hP hK hD hN⟩⟩ rfl rfl hl.1 rfl (lv_room (Nat.le_of_ble_eq_true rfl)) dX12_readLine_76 ⟨Nat.le_of_ble_eq_true rfl, Nat.le_of_ble_eq_true rfl⟩) hS (fun q _ h => hFc q h) hFc (fun r_u_42 u_42 t9 H locs ht9 hvm hw hB hz1 hk1 hS => ?_)
              have hP := fr_keep hP hk1
              have wu_42 := hw
              clear hFc hk1 hz1 hB hw
              replace wu_42 : (r_u_42.toInt = 0 ∨ r_u_42.toInt = 1) ∧ (r_u_42.toInt = 0 ∨ (r_u_42.toInt = 1 ∧ (v37 8).toInt = 5 ∧ sgn (v 3).toInt (f 1) (v37 6).toInt = (59 : Int32).toInt)) := by
                have h9 : (r_u_42.toInt = 0 ∨ r_u_42.toInt = 1) ∧ (r_u_42.toInt = 0 ∨ (r_u_42.toInt = 1 ∧ (v37 8).toInt = 5 ∧ sgn (v37 3).toInt (f37 1) (v37 6).toInt = (59 : Int32).toInt)) := wu_42
                rw [(show v37 3 = (v 3) from ((xu_37V 3 (by decide)).trans (xu_15V 3 (by decide)))), (show f37 1 = (f 1) from (xu_37F 1 (by decide)))] at h9
                exact h9
              have hFc := fr_free hD hS hA
              refine va_callv (va_runV (As := [.int r_u_42]) (rest := []) ⟨hx, hb, hml, hown, ht⟩ (m_must l G cy _ mo h T v37 nm37 f37 g37 r_u_42  hv hf hR hL (by omega) (show (v37 7).toInt ≤ (v37 3).toInt from by rw [(show v37 3 = (v 3) from ((xu_37V 3 (by decide)).trans (xu_15V 3 (by decide))))]; omega)) (cwV 1 ht (gv k_268 k_269 k_270 k_61 k_267) rfl rfl rfl (by decide +kernel) ⟨Nat.le_of_ble_eq_true rfl, Nat.le_of_ble_eq_true rfl⟩) ⟨En.blind, va_recv hK hP (ci := 12) (q0 := 0) rfl rfl, fun U hU hW => ⟨rfl, En.of hU hW hP hK hD hN⟩⟩ rfl rfl hl.1 rfl (lv_room (Nat.le_of_ble_eq_true rfl)) dX12_readLine_79 ⟨Nat.le_of_ble_eq_true rfl, Nat.le_of_ble_eq_true rfl⟩) hS (fun q _ h => hFc q h) hFc (fun u_43 t9 H locs ht9 hvm hw hB hz1 hk1 hS => ?_)
              obtain ⟨v43, nm43⟩ := u_43
              obtain ⟨hP1, hD1⟩ := hB
              rw [ht9] at hP1
              obtain ⟨hv, xu_43V, wu_43, xu_43_M⟩ := hw
              dsimp only at hv xu_43V wu_43 xu_43_M
              have hP : va_P G vwCl (WMs cy mo h v43 nm43 f37 g37) H := hP1
              have hD : va_D A (WMs cy mo h v43 nm43 f37 g37) := hD1.weaken (fun _ _ _ h => hFc _ h)
              replace hR : RI v43 f37 := RI.fv hR xu_43V (by decide)
              replace hL : WL v43 f37 := WL.fv hL xu_43V (by decide) (by decide)
              replace hV_0 := FV.tr hV_0 xu_43V (by decide)
              clear hFc hk1 hz1 hP1 hD1
              replace wu_43 : ((v43 7).toInt ≤ (v 3).toInt ∧ ((v43 4).toInt ≠ 0 ∨ (v37 4).toInt = 0)) := by
                have h9 : ((v43 7).toInt ≤ (v37 3).toInt ∧ ((v43 4).toInt ≠ 0 ∨ (v37 4).toInt = 0)) := wu_43
                rw [(show v37 3 = (v 3) from ((xu_37V 3 (by decide)).trans (xu_15V 3 (by decide))))] at h9
                exact h9
              replace xu_43_M : 0 ≤ mz (v 3).toInt (v43 7).toInt (v43 8).toInt ∧ mz (v 3).toInt (v43 7).toInt (v43 8).toInt ≤ mz (v 3).toInt (v37 7).toInt (v37 8).toInt := by
                have h9 : 0 ≤ mz (v37 3).toInt (v43 7).toInt (v43 8).toInt ∧ mz (v37 3).toInt (v43 7).toInt (v43 8).toInt ≤ mz (v37 3).toInt (v37 7).toInt (v37 8).toInt := xu_43_M
                rw [(show v37 3 = (v 3) from ((xu_37V 3 (by decide)).trans (xu_15V 3 (by decide))))] at h9
                exact h9
              refine W.widen (k := 0) (n := 0) (Nat.le_of_ble_eq_true rfl) (Nat.le_of_ble_eq_true rfl) ?_
              exact W.vret hx hb hr (fun t ht9 hW => ⟨⟨(v43, nm43, f37, g37), rfl, ⟨hv, hf, hR, hL, hV_0, hF_0, (show (v43 7).toInt ≤ (v 3).toInt from by first | omega | (subst_vars; first | rfl | omega)), (show 0 ≤ mz (v 3).toInt (v43 7).toInt (v43 8).toInt ∧ mz (v 3).toInt (v43 7).toInt (v43 8).toInt ≤ mz (v 3).toInt (v 7).toInt (v 8).toInt ∧ ((v43 4).toInt ≠ 0 ∨ mz (v 3).toInt (v43 7).toInt (v43 8).toInt < mz (v 3).toInt (v 7).toInt (v 8).toInt) from by omega), (show (v43 4).toInt = 0 → PB (v 30).toInt (v43 31).toInt ((f37 13) (Int32.toNatClampNeg (v 30))).toInt (f37 12) (f37 19) (f37 20) (f37 24) (f37 25) (Int32.toNatClampNeg (v 30)) from by rw [(show v43 31 = (v37 31) from (xu_43V 31 (by decide)))]; exact fun h9 => xu_37_P (by omega))⟩, ⟨by rw [ht9]; exact hP, hD⟩⟩, hS.F ht9⟩) hS.2.2 dX12_readLine_82
            · have q_44 : v_38.toInt = (0 : Int32).toInt := (ow_eq _ _).mp c_39
              have lc_45 : nm = (495924372852 : Int64) := (lg_cmp_eq _ _).mp (by rw [← ev_38]; exact (ow_eq _ _).mpr (by omega))
              exact absurd (lc_36.symm.trans lc_45) (by decide)
        · have q_46 : v_16.toInt = (0 : Int32).toInt := (ow_eq _ _).mp c_17
          have lc_47 : nm = (1953853029 : Int64) := (lg_cmp_eq _ _).mp (by rw [← ev_16]; exact (ow_eq _ _).mpr (by omega))
          have hT9 := (xu_9_F (by omega)).1 lc_47
          have rg30 : 0 ≤ (v 30).toInt ∧ (v 30).toInt ≤ 1 := hv0 30
          have rgT : 0 ≤ (f 11 (Int32.toNatClampNeg (v 30))).toInt ∧ (f 11 (Int32.toNatClampNeg (v 30))).toInt ≤ 14 := hf 11 _ (show (Int32.toNatClampNeg (v 30)) < 2 from by rw [ow_tn]; omega)
          refine lv_aload_n hx hb dX12_readLine_44 rfl (lv_at hl 1 rfl) ?_
          have hFc := fr_free hD hS hA
          refine va_callv (va_runV (As := []) (rest := []) ⟨hx, hb, hml, hown, ht⟩ (m_readTune l G cy _ mo h T v15 nm15 f g   hv hf hR hL (show (v15 7).toInt ≤ (v15 3).toInt from by rw [(show v15 3 = (v 3) from (xu_15V 3 (by decide)))]; omega) (show ((f 11) (Int32.toNatClampNeg (v15 30))).toInt ≤ 13 from by rw [(show v15 30 = (v 30) from (xu_15V 30 (by decide)))]; omega)) (cwV 0 ht (gv k_308 k_309 k_310 k_61 k_307) rfl rfl rfl (by decide +kernel) ⟨Nat.le_of_ble_eq_true rfl, Nat.le_of_ble_eq_true rfl⟩) ⟨En.blind, va_recv hK hP (ci := 12) (q0 := 0) rfl rfl, fun U hU hW => ⟨rfl, En.of hU hW hP hK hD hN⟩⟩ rfl rfl hl.1 rfl (lv_room (Nat.le_of_ble_eq_true rfl)) dX12_readLine_45 ⟨Nat.le_of_ble_eq_true rfl, Nat.le_of_ble_eq_true rfl⟩) hS (fun q _ h => hFc q h) hFc (fun u_48 t9 H locs ht9 hvm hw hB hz1 hk1 hS => ?_)
          obtain ⟨v48, nm48, f48, g48⟩ := u_48
          obtain ⟨hP1, hD1⟩ := hB
          rw [ht9] at hP1
          obtain ⟨hv, hf, hR, hL, xu_48V, xu_48F, wu_48, xu_48_M⟩ := hw
          have hP : va_P G vwCl (WMs cy mo h v48 nm48 f48 g48) H := hP1
          have hD : va_D A (WMs cy mo h v48 nm48 f48 g48) := hD1.weaken (fun _ _ _ h => hFc _ h)
          dsimp only at hv hf hR hL wu_48 xu_48V xu_48F xu_48_M
          clear hFc hk1 hz1 hP1 hD1
          replace hV_0 := FV.tr hV_0 xu_48V (by decide)
          replace hF_0 := FF.tr hF_0 xu_48F (by decide)
          replace wu_48 : ((v48 7).toInt ≤ (v 3).toInt ∧ ((v48 4).toInt ≠ 0 ∨ (v 4).toInt = 0)) := by
            have h9 : ((v48 7).toInt ≤ (v15 3).toInt ∧ ((v48 4).toInt ≠ 0 ∨ (v15 4).toInt = 0)) := wu_48
            rw [(show v15 3 = (v 3) from (xu_15V 3 (by decide))), (show v15 4 = (v 4) from (xu_15V 4 (by decide)))] at h9
            exact h9
          replace xu_48_M : 0 ≤ mz (v 3).toInt (v48 7).toInt (v48 8).toInt ∧ mz (v 3).toInt (v48 7).toInt (v48 8).toInt ≤ mz (v 3).toInt (v15 7).toInt (v15 8).toInt := by
            have h9 : 0 ≤ mz (v15 3).toInt (v48 7).toInt (v48 8).toInt ∧ mz (v15 3).toInt (v48 7).toInt (v48 8).toInt ≤ mz (v15 3).toInt (v15 7).toInt (v15 8).toInt := xu_48_M
            rw [(show v15 3 = (v 3) from (xu_15V 3 (by decide)))] at h9
            exact h9
          refine lv_lload_n hx hb dX12_readLine_48 rfl (lv_at hl 0 rfl) ?_
          refine lv_ldc2 (v := 1819239275) hx hb hown (ht _ k_200) dX12_readLine_49 ?_
          refine W.lcmp hx hb dX12_readLine_52 ?_
          refine lv_topi (fun v_49 ev_49 => ?_)
          refine lv_if_ne (tgt := 60) hx hb dX12_readLine_53 (by decide) (fun c_50 => ?_) (fun c_50 => ?_)
          · have q_51 : ¬ v_49.toInt = (0 : Int32).toInt := by have := (not_congr (ow_eq _ _)).mp c_50; omega
            have lc_52 : ¬ nm = (1819239275 : Int64) := fun h9 => q_51 (by rw [ev_49, (lg_cmp_eq _ _).mpr h9])
            refine lv_lload_n hx hb dX12_readLine_60 rfl (lv_at hl 0 rfl) ?_
            refine lv_ldc2 (v := 495924372852) hx hb hown (ht _ k_203) dX12_readLine_61 ?_
            refine W.lcmp hx hb dX12_readLine_64 ?_
            refine lv_topi (fun v_53 ev_53 => ?_)
            refine lv_if_ne (tgt := 72) hx hb dX12_readLine_65 (by decide) (fun c_54 => ?_) (fun c_54 => ?_)
            · have q_55 : ¬ v_53.toInt = (0 : Int32).toInt := by have := (not_congr (ow_eq _ _)).mp c_54; omega
              have lc_56 : ¬ nm = (495924372852 : Int64) := fun h9 => q_55 (by rw [ev_53, (lg_cmp_eq _ _).mpr h9])
              refine lv_aload_n hx hb dX12_readLine_72 rfl (lv_at hl 1 rfl) ?_
              refine lv_aload_n hx hb dX12_readLine_73 rfl (lv_at hl 1 rfl) ?_
              refine lv_bipush (v := 59) hx hb dX12_readLine_74 (by decide) ?_
              have hFc := fr_new hS hA
              refine va_calli (va_runV (As := [.int 59]) (rest := [.ref mo]) ⟨hx, hb, hml, hown, ht⟩ (m_stands l G cy _ mo h T v48 nm48 f48 g48 (59)  hv hf hR hL) (cwV 1 ht (gv k_244 k_245 k_246 k_61 k_243) rfl rfl rfl (by decide +kernel) ⟨Nat.le_of_ble_eq_true rfl, Nat.le_of_ble_eq_true rfl⟩) ⟨En.blind, va_recv hK hP (ci := 12) (q0 := 0) rfl rfl, fun U hU hW => ⟨rfl, En.of hU hW hP hK hD hN⟩⟩ rfl rfl hl.1 rfl (lv_room (Nat.le_of_ble_eq_true rfl)) dX12_readLine_76 ⟨Nat.le_of_ble_eq_true rfl, Nat.le_of_ble_eq_true rfl⟩) hS (fun q _ h => hFc q h) hFc (fun r_u_57 u_57 t9 H locs ht9 hvm hw hB hz1 hk1 hS => ?_)
              have hP := fr_keep hP hk1
              have wu_57 := hw
              clear hFc hk1 hz1 hB hw
              replace wu_57 : (r_u_57.toInt = 0 ∨ r_u_57.toInt = 1) ∧ (r_u_57.toInt = 0 ∨ (r_u_57.toInt = 1 ∧ (v48 8).toInt = 5 ∧ sgn (v 3).toInt (f 1) (v48 6).toInt = (59 : Int32).toInt)) := by
                have h9 : (r_u_57.toInt = 0 ∨ r_u_57.toInt = 1) ∧ (r_u_57.toInt = 0 ∨ (r_u_57.toInt = 1 ∧ (v48 8).toInt = 5 ∧ sgn (v48 3).toInt (f48 1) (v48 6).toInt = (59 : Int32).toInt)) := wu_57
                rw [(show v48 3 = (v 3) from ((xu_48V 3 (by decide)).trans (xu_15V 3 (by decide)))), (show f48 1 = (f 1) from (xu_48F 1 (by decide)))] at h9
                exact h9
              have hFc := fr_free hD hS hA
              refine va_callv (va_runV (As := [.int r_u_57]) (rest := []) ⟨hx, hb, hml, hown, ht⟩ (m_must l G cy _ mo h T v48 nm48 f48 g48 r_u_57  hv hf hR hL (by omega) (show (v48 7).toInt ≤ (v48 3).toInt from by rw [(show v48 3 = (v 3) from ((xu_48V 3 (by decide)).trans (xu_15V 3 (by decide))))]; omega)) (cwV 1 ht (gv k_268 k_269 k_270 k_61 k_267) rfl rfl rfl (by decide +kernel) ⟨Nat.le_of_ble_eq_true rfl, Nat.le_of_ble_eq_true rfl⟩) ⟨En.blind, va_recv hK hP (ci := 12) (q0 := 0) rfl rfl, fun U hU hW => ⟨rfl, En.of hU hW hP hK hD hN⟩⟩ rfl rfl hl.1 rfl (lv_room (Nat.le_of_ble_eq_true rfl)) dX12_readLine_79 ⟨Nat.le_of_ble_eq_true rfl, Nat.le_of_ble_eq_true rfl⟩) hS (fun q _ h => hFc q h) hFc (fun u_58 t9 H locs ht9 hvm hw hB hz1 hk1 hS => ?_)
              obtain ⟨v58, nm58⟩ := u_58
              obtain ⟨hP1, hD1⟩ := hB
              rw [ht9] at hP1
              obtain ⟨hv, xu_58V, wu_58, xu_58_M⟩ := hw
              dsimp only at hv xu_58V wu_58 xu_58_M
              have hP : va_P G vwCl (WMs cy mo h v58 nm58 f48 g48) H := hP1
              have hD : va_D A (WMs cy mo h v58 nm58 f48 g48) := hD1.weaken (fun _ _ _ h => hFc _ h)
              replace hR : RI v58 f48 := RI.fv hR xu_58V (by decide)
              replace hL : WL v58 f48 := WL.fv hL xu_58V (by decide) (by decide)
              replace hV_0 := FV.tr hV_0 xu_58V (by decide)
              clear hFc hk1 hz1 hP1 hD1
              replace wu_58 : ((v58 7).toInt ≤ (v 3).toInt ∧ ((v58 4).toInt ≠ 0 ∨ (v48 4).toInt = 0)) := by
                have h9 : ((v58 7).toInt ≤ (v48 3).toInt ∧ ((v58 4).toInt ≠ 0 ∨ (v48 4).toInt = 0)) := wu_58
                rw [(show v48 3 = (v 3) from ((xu_48V 3 (by decide)).trans (xu_15V 3 (by decide))))] at h9
                exact h9
              replace xu_58_M : 0 ≤ mz (v 3).toInt (v58 7).toInt (v58 8).toInt ∧ mz (v 3).toInt (v58 7).toInt (v58 8).toInt ≤ mz (v 3).toInt (v48 7).toInt (v48 8).toInt := by
                have h9 : 0 ≤ mz (v48 3).toInt (v58 7).toInt (v58 8).toInt ∧ mz (v48 3).toInt (v58 7).toInt (v58 8).toInt ≤ mz (v48 3).toInt (v48 7).toInt (v48 8).toInt := xu_58_M
                rw [(show v48 3 = (v 3) from ((xu_48V 3 (by decide)).trans (xu_15V 3 (by decide))))] at h9
                exact h9
              refine W.widen (k := 0) (n := 0) (Nat.le_of_ble_eq_true rfl) (Nat.le_of_ble_eq_true rfl) ?_
              exact W.vret hx hb hr (fun t ht9 hW => ⟨⟨(v58, nm58, f48, g48), rfl, ⟨hv, hf, hR, hL, hV_0, hF_0, (show (v58 7).toInt ≤ (v 3).toInt from by first | omega | (subst_vars; first | rfl | omega)), (show 0 ≤ mz (v 3).toInt (v58 7).toInt (v58 8).toInt ∧ mz (v 3).toInt (v58 7).toInt (v58 8).toInt ≤ mz (v 3).toInt (v 7).toInt (v 8).toInt ∧ ((v58 4).toInt ≠ 0 ∨ mz (v 3).toInt (v58 7).toInt (v58 8).toInt < mz (v 3).toInt (v 7).toInt (v 8).toInt) from by omega), (show (v58 4).toInt = 0 → PB (v 30).toInt (v58 31).toInt ((f48 13) (Int32.toNatClampNeg (v 30))).toInt (f48 12) (f48 19) (f48 20) (f48 24) (f48 25) (Int32.toNatClampNeg (v 30)) from by rw [(show v58 31 = (v 31) from ((xu_58V 31 (by decide)).trans ((xu_48V 31 (by decide)).trans (xu_15V 31 (by decide))))), (show f48 13 = (f 13) from (xu_48F 13 (by decide))), (show f48 12 = (f 12) from (xu_48F 12 (by decide))), (show f48 19 = (f 19) from (xu_48F 19 (by decide))), (show f48 20 = (f 20) from (xu_48F 20 (by decide))), (show f48 24 = (f 24) from (xu_48F 24 (by decide))), (show f48 25 = (f 25) from (xu_48F 25 (by decide)))]; exact fun h9 => hPB)⟩, ⟨by rw [ht9]; exact hP, hD⟩⟩, hS.F ht9⟩) hS.2.2 dX12_readLine_82
            · have q_59 : v_53.toInt = (0 : Int32).toInt := (ow_eq _ _).mp c_54
              have lc_60 : nm = (495924372852 : Int64) := (lg_cmp_eq _ _).mp (by rw [← ev_53]; exact (ow_eq _ _).mpr (by omega))
              exact absurd (lc_47.symm.trans lc_60) (by decide)
          · have q_61 : v_49.toInt = (0 : Int32).toInt := (ow_eq _ _).mp c_50
            have lc_62 : nm = (1819239275 : Int64) := (lg_cmp_eq _ _).mp (by rw [← ev_49]; exact (ow_eq _ _).mpr (by omega))
            exact absurd (lc_47.symm.trans lc_62) (by decide)
      · have q_63 : r_u_12.toInt = (0 : Int32).toInt := (ow_eq _ _).mp c_13
        refine W.widen (k := 0) (n := 0) (Nat.le_of_ble_eq_true rfl) (Nat.le_of_ble_eq_true rfl) ?_
        exact W.vret hx hb hr (fun t ht9 hW => ⟨⟨(v, nm, f, g), rfl, ⟨hv, hf, hR, hL, hV_0, hF_0, (show (v 7).toInt ≤ (v 3).toInt from by first | omega | (subst_vars; first | rfl | omega)), (show 0 ≤ mz (v 3).toInt (v 7).toInt (v 8).toInt ∧ mz (v 3).toInt (v 7).toInt (v 8).toInt ≤ mz (v 3).toInt (v 7).toInt (v 8).toInt ∧ ((v 4).toInt ≠ 0 ∨ mz (v 3).toInt (v 7).toInt (v 8).toInt < mz (v 3).toInt (v 7).toInt (v 8).toInt) from by omega), (show (v 4).toInt = 0 → PB (v 30).toInt (v 31).toInt ((f 13) (Int32.toNatClampNeg (v 30))).toInt (f 12) (f 19) (f 20) (f 24) (f 25) (Int32.toNatClampNeg (v 30)) from by exact fun h9 => absurd h9 (by omega))⟩, ⟨by rw [ht9]; exact hP, hD⟩⟩, hS.F ht9⟩) hS.2.2 dX12_readLine_31
    · have q_64 : ¬ r_u_9.toInt = (0 : Int32).toInt := by have := (not_congr (ow_eq _ _)).mp c_10; omega
      refine lv_aload_n hx hb dX12_readLine_20 rfl (lv_at hl 1 rfl) ?_
      have hFc := fr_free hD hS hA
      refine va_callv (va_runV (As := []) (rest := []) ⟨hx, hb, hml, hown, ht⟩ (m_misplaced l G cy _ mo h T v nm f g   hv hf hR hL) (cwV 0 ht (gv k_228 k_229 k_230 k_61 k_227) rfl rfl rfl (by decide +kernel) ⟨Nat.le_of_ble_eq_true rfl, Nat.le_of_ble_eq_true rfl⟩) ⟨En.blind, va_recv hK hP (ci := 12) (q0 := 0) rfl rfl, fun U hU hW => ⟨rfl, En.of hU hW hP hK hD hN⟩⟩ rfl rfl hl.1 rfl (lv_room (Nat.le_of_ble_eq_true rfl)) dX12_readLine_21 ⟨Nat.le_of_ble_eq_true rfl, Nat.le_of_ble_eq_true rfl⟩) hS (fun q _ h => hFc q h) hFc (fun u_65 t9 H locs ht9 hvm hw hB hz1 hk1 hS => ?_)
      obtain ⟨v65, nm65⟩ := u_65
      obtain ⟨hP1, hD1⟩ := hB
      rw [ht9] at hP1
      obtain ⟨hv, xu_65V, wu_65⟩ := hw
      dsimp only at hv xu_65V wu_65
      have hP : va_P G vwCl (WMs cy mo h v65 nm65 f g) H := hP1
      have hD : va_D A (WMs cy mo h v65 nm65 f g) := hD1.weaken (fun _ _ _ h => hFc _ h)
      replace hR : RI v65 f := RI.fv hR xu_65V (by decide)
      replace hL : WL v65 f := WL.fv hL xu_65V (by decide) (by decide)
      replace hV_0 := FV.tr hV_0 xu_65V (by decide)
      clear hFc hk1 hz1 hP1 hD1
      replace wu_65 : (1 ≤ (v65 4).toInt) := wu_65
      refine lv_aload_n hx hb dX12_readLine_24 rfl (lv_at hl 1 rfl) ?_
      have hFc := fr_new hS hA
      refine va_calli (va_runV (As := []) (rest := []) ⟨hx, hb, hml, hown, ht⟩ (m_isGood l G cy _ mo h T v65 nm65 f g   hv hf hR hL) (cwV 0 ht (gv k_224 k_225 k_226 k_61 k_223) rfl rfl rfl (by decide +kernel) ⟨Nat.le_of_ble_eq_true rfl, Nat.le_of_ble_eq_true rfl⟩) ⟨En.blind, va_recv hK hP (ci := 12) (q0 := 0) rfl rfl, fun U hU hW => ⟨rfl, En.of hU hW hP hK hD hN⟩⟩ rfl rfl hl.1 rfl (lv_room (Nat.le_of_ble_eq_true rfl)) dX12_readLine_25 ⟨Nat.le_of_ble_eq_true rfl, Nat.le_of_ble_eq_true rfl⟩) hS (fun q _ h => hFc q h) hFc (fun r_u_66 u_66 t9 H locs ht9 hvm hw hB hz1 hk1 hS => ?_)
      have hP := fr_keep hP hk1
      have wu_66 := hw
      clear hFc hk1 hz1 hB hw
      replace wu_66 : (r_u_66.toInt = 0 ∨ r_u_66.toInt = 1) ∧ ((r_u_66.toInt = 1 ∧ (v65 4).toInt = 0) ∨ (r_u_66.toInt = 0 ∧ (v65 4).toInt ≠ 0)) := wu_66
      refine lv_if_ne (tgt := 32) hx hb dX12_readLine_28 (by decide) (fun c_67 => ?_) (fun c_67 => ?_)
      · have q_68 : ¬ r_u_66.toInt = (0 : Int32).toInt := by have := (not_congr (ow_eq _ _)).mp c_67; omega
        exfalso
        omega
      · have q_69 : r_u_66.toInt = (0 : Int32).toInt := (ow_eq _ _).mp c_67
        refine W.widen (k := 0) (n := 0) (Nat.le_of_ble_eq_true rfl) (Nat.le_of_ble_eq_true rfl) ?_
        exact W.vret hx hb hr (fun t ht9 hW => ⟨⟨(v65, nm65, f, g), rfl, ⟨hv, hf, hR, hL, hV_0, hF_0, (show (v65 7).toInt ≤ (v 3).toInt from by rw [(show v65 7 = (v 7) from (xu_65V 7 (by decide)))]; first | omega | (subst_vars; first | rfl | omega)), (show 0 ≤ mz (v 3).toInt (v65 7).toInt (v65 8).toInt ∧ mz (v 3).toInt (v65 7).toInt (v65 8).toInt ≤ mz (v 3).toInt (v 7).toInt (v 8).toInt ∧ ((v65 4).toInt ≠ 0 ∨ mz (v 3).toInt (v65 7).toInt (v65 8).toInt < mz (v 3).toInt (v 7).toInt (v 8).toInt) from by rw [(show v65 7 = (v 7) from (xu_65V 7 (by decide))), (show v65 8 = (v 8) from (xu_65V 8 (by decide)))]; omega), (show (v65 4).toInt = 0 → PB (v 30).toInt (v65 31).toInt ((f 13) (Int32.toNatClampNeg (v 30))).toInt (f 12) (f 19) (f 20) (f 24) (f 25) (Int32.toNatClampNeg (v 30)) from by rw [(show v65 31 = (v 31) from (xu_65V 31 (by decide)))]; exact fun h9 => absurd h9 (by omega))⟩, ⟨by rw [ht9]; exact hP, hD⟩⟩, hS.F ht9⟩) hS.2.2 dX12_readLine_31
