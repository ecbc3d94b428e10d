theorem k_263 : (Cond.code yX12_rankHere cX12_rankHere 1 (some .int)) ∈ TBg := tb_mem 1314 (by decide +kernel) (by decide +kernel)
theorem k_264 : (Cond.methodLink RX12 305 yX12_rankHere) ∈ TBg := tb_mem 1311 (by decide +kernel) (by decide +kernel)
theorem k_265 : (Cond.instanceMethod yX12_rankHere) ∈ TBg := tb_mem 1313 (by decide +kernel) (by decide +kernel)
theorem k_266 : (Cond.selects RX12 yX12_rankHere yX12_rankHere) ∈ TBg := tb_mem 54 (by decide +kernel) (by decide +kernel)
theorem k_267 : (Cond.code yX12_must cX12_must 2 none) ∈ TBg := tb_mem 1274 (by decide +kernel) (by decide +kernel)
theorem k_268 : (Cond.methodLink RX12 261 yX12_must) ∈ TBg := tb_mem 1271 (by decide +kernel) (by decide +kernel)
theorem k_269 : (Cond.instanceMethod yX12_must) ∈ TBg := tb_mem 1273 (by decide +kernel) (by decide +kernel)
theorem k_270 : (Cond.selects RX12 yX12_must yX12_must) ∈ TBg := tb_mem 44 (by decide +kernel) (by decide +kernel)
theorem k_271 : (Cond.code yX12_isCompared cX12_isCompared 2 (some .boolean)) ∈ TBg := tb_mem 1318 (by decide +kernel) (by decide +kernel)
theorem k_272 : (Cond.methodLink RX12 308 yX12_isCompared) ∈ TBg := tb_mem 1315 (by decide +kernel) (by decide +kernel)
theorem k_273 : (Cond.instanceMethod yX12_isCompared) ∈ TBg := tb_mem 1317 (by decide +kernel) (by decide +kernel)
theorem k_274 : (Cond.selects RX12 yX12_isCompared yX12_isCompared) ∈ TBg := tb_mem 55 (by decide +kernel) (by decide +kernel)
theorem dX12_behindUnit_0 : decode cX12_behindUnit 0 = .ok (.aload_n 0, 1) := by decide +kernel
theorem dX12_behindUnit_1 : decode cX12_behindUnit 1 = .ok (.invokevirtual 305, 3) := by decide +kernel
theorem dX12_behindUnit_4 : decode cX12_behindUnit 4 = .ok (.istore_n 1, 1) := by decide +kernel
theorem dX12_behindUnit_23 : decode cX12_behindUnit 23 = .ok (.aload_n 0, 1) := by decide +kernel
theorem dX12_behindUnit_24 : decode cX12_behindUnit 24 = .ok (.getfield 68, 3) := by decide +kernel
theorem dX12_behindUnit_27 : decode cX12_behindUnit 27 = .ok (.aload_n 0, 1) := by decide +kernel
theorem dX12_behindUnit_28 : decode cX12_behindUnit 28 = .ok (.getfield 284, 3) := by decide +kernel
theorem dX12_behindUnit_31 : decode cX12_behindUnit 31 = .ok (.iconst 1, 1) := by decide +kernel
theorem dX12_behindUnit_32 : decode cX12_behindUnit 32 = .ok (.isub, 1) := by decide +kernel
theorem dX12_behindUnit_33 : decode cX12_behindUnit 33 = .ok (.iaload, 1) := by decide +kernel
theorem dX12_behindUnit_34 : decode cX12_behindUnit 34 = .ok (.iconst 5, 1) := by decide +kernel
theorem dX12_behindUnit_35 : decode cX12_behindUnit 35 = .ok (.if_icmp .gt 68, 3) := by decide +kernel
theorem dX12_behindUnit_103 : decode cX12_behindUnit 103 = .ok (.iload_n 1, 1) := by decide +kernel
theorem dX12_behindUnit_104 : decode cX12_behindUnit 104 = .ok (.ifCond .le 42, 3) := by decide +kernel
theorem dX12_behindUnit_146 : decode cX12_behindUnit 146 = .ok (.aload_n 0, 1) := by decide +kernel
theorem dX12_behindUnit_147 : decode cX12_behindUnit 147 = .ok (.dup, 1) := by decide +kernel
theorem dX12_behindUnit_148 : decode cX12_behindUnit 148 = .ok (.getfield 284, 3) := by decide +kernel
theorem dX12_behindUnit_151 : decode cX12_behindUnit 151 = .ok (.iconst 1, 1) := by decide +kernel
theorem dX12_behindUnit_152 : decode cX12_behindUnit 152 = .ok (.isub, 1) := by decide +kernel
theorem dX12_behindUnit_153 : decode cX12_behindUnit 153 = .ok (.putfield 284, 3) := by decide +kernel
theorem dX12_behindUnit_156 : decode cX12_behindUnit 156 = .ok (.aload_n 0, 1) := by decide +kernel
theorem dX12_behindUnit_157 : decode cX12_behindUnit 157 = .ok (.getfield 68, 3) := by decide +kernel
theorem dX12_behindUnit_160 : decode cX12_behindUnit 160 = .ok (.aload_n 0, 1) := by decide +kernel
theorem dX12_behindUnit_161 : decode cX12_behindUnit 161 = .ok (.getfield 284, 3) := by decide +kernel
theorem dX12_behindUnit_164 : decode cX12_behindUnit 164 = .ok (.iaload, 1) := by decide +kernel
theorem dX12_behindUnit_165 : decode cX12_behindUnit 165 = .ok (.bipush 6, 2) := by decide +kernel
theorem dX12_behindUnit_167 : decode cX12_behindUnit 167 = .ok (.if_icmp .ne 23, 3) := by decide +kernel
theorem dX12_behindUnit_190 : decode cX12_behindUnit 190 = .ok (.iconst 0, 1) := by decide +kernel
theorem dX12_behindUnit_191 : decode cX12_behindUnit 191 = .ok (.ireturn, 1) := by decide +kernel
theorem dX12_behindUnit_170 : decode cX12_behindUnit 170 = .ok (.aload_n 0, 1) := by decide +kernel
theorem dX12_behindUnit_171 : decode cX12_behindUnit 171 = .ok (.dup, 1) := by decide +kernel
theorem dX12_behindUnit_172 : decode cX12_behindUnit 172 = .ok (.getfield 287, 3) := by decide +kernel
theorem dX12_behindUnit_175 : decode cX12_behindUnit 175 = .ok (.iconst 1, 1) := by decide +kernel
theorem dX12_behindUnit_176 : decode cX12_behindUnit 176 = .ok (.isub, 1) := by decide +kernel
theorem dX12_behindUnit_177 : decode cX12_behindUnit 177 = .ok (.putfield 287, 3) := by decide +kernel
theorem dX12_behindUnit_180 : decode cX12_behindUnit 180 = .ok (.aload_n 0, 1) := by decide +kernel
theorem dX12_behindUnit_181 : decode cX12_behindUnit 181 = .ok (.aload_n 0, 1) := by decide +kernel
theorem dX12_behindUnit_182 : decode cX12_behindUnit 182 = .ok (.bipush 41, 2) := by decide +kernel
theorem dX12_behindUnit_184 : decode cX12_behindUnit 184 = .ok (.invokevirtual 258, 3) := by decide +kernel
theorem dX12_behindUnit_187 : decode cX12_behindUnit 187 = .ok (.invokevirtual 261, 3) := by decide +kernel
theorem dX12_behindUnit_107 : decode cX12_behindUnit 107 = .ok (.aload_n 0, 1) := by decide +kernel
theorem dX12_behindUnit_108 : decode cX12_behindUnit 108 = .ok (.iload_n 1, 1) := by decide +kernel
theorem dX12_behindUnit_109 : decode cX12_behindUnit 109 = .ok (.iload_n 1, 1) := by decide +kernel
theorem dX12_behindUnit_110 : decode cX12_behindUnit 110 = .ok (.iconst 2, 1) := by decide +kernel
theorem dX12_behindUnit_111 : decode cX12_behindUnit 111 = .ok (.if_icmp .ne 8, 3) := by decide +kernel
theorem dX12_behindUnit_119 : decode cX12_behindUnit 119 = .ok (.iload_n 1, 1) := by decide +kernel
theorem dX12_behindUnit_120 : decode cX12_behindUnit 120 = .ok (.iconst 1, 1) := by decide +kernel
theorem dX12_behindUnit_121 : decode cX12_behindUnit 121 = .ok (.if_icmp .ne 8, 3) := by decide +kernel
theorem dX12_behindUnit_129 : decode cX12_behindUnit 129 = .ok (.aload_n 0, 1) := by decide +kernel
theorem dX12_behindUnit_130 : decode cX12_behindUnit 130 = .ok (.aload_n 0, 1) := by decide +kernel
theorem dX12_behindUnit_131 : decode cX12_behindUnit 131 = .ok (.getfield 173, 3) := by decide +kernel
theorem dX12_behindUnit_134 : decode cX12_behindUnit 134 = .ok (.invokevirtual 176, 3) := by decide +kernel
theorem dX12_behindUnit_137 : decode cX12_behindUnit 137 = .ok (.invokevirtual 290, 3) := by decide +kernel
theorem dX12_behindUnit_140 : decode cX12_behindUnit 140 = .ok (.aload_n 0, 1) := by decide +kernel
theorem dX12_behindUnit_141 : decode cX12_behindUnit 141 = .ok (.invokevirtual 212, 3) := by decide +kernel
theorem dX12_behindUnit_144 : decode cX12_behindUnit 144 = .ok (.iconst 1, 1) := by decide +kernel
theorem dX12_behindUnit_145 : decode cX12_behindUnit 145 = .ok (.ireturn, 1) := by decide +kernel
theorem dX12_behindUnit_124 : decode cX12_behindUnit 124 = .ok (.bipush 124, 2) := by decide +kernel
theorem dX12_behindUnit_126 : decode cX12_behindUnit 126 = .ok (.goto 11, 3) := by decide +kernel
theorem dX12_behindUnit_114 : decode cX12_behindUnit 114 = .ok (.bipush 38, 2) := by decide +kernel
theorem dX12_behindUnit_116 : decode cX12_behindUnit 116 = .ok (.goto 21, 3) := by decide +kernel
theorem dX12_behindUnit_38 : decode cX12_behindUnit 38 = .ok (.aload_n 0, 1) := by decide +kernel
theorem dX12_behindUnit_39 : decode cX12_behindUnit 39 = .ok (.getfield 68, 3) := by decide +kernel
theorem dX12_behindUnit_42 : decode cX12_behindUnit 42 = .ok (.aload_n 0, 1) := by decide +kernel
theorem dX12_behindUnit_43 : decode cX12_behindUnit 43 = .ok (.getfield 284, 3) := by decide +kernel
theorem dX12_behindUnit_46 : decode cX12_behindUnit 46 = .ok (.iconst 1, 1) := by decide +kernel
theorem dX12_behindUnit_47 : decode cX12_behindUnit 47 = .ok (.isub, 1) := by decide +kernel
theorem dX12_behindUnit_48 : decode cX12_behindUnit 48 = .ok (.iaload, 1) := by decide +kernel
theorem dX12_behindUnit_49 : decode cX12_behindUnit 49 = .ok (.iload_n 1, 1) := by decide +kernel
theorem dX12_behindUnit_50 : decode cX12_behindUnit 50 = .ok (.if_icmp .lt 53, 3) := by decide +kernel
theorem dX12_behindUnit_53 : decode cX12_behindUnit 53 = .ok (.aload_n 0, 1) := by decide +kernel
theorem dX12_behindUnit_54 : decode cX12_behindUnit 54 = .ok (.dup, 1) := by decide +kernel
theorem dX12_behindUnit_55 : decode cX12_behindUnit 55 = .ok (.getfield 284, 3) := by decide +kernel
theorem dX12_behindUnit_58 : decode cX12_behindUnit 58 = .ok (.iconst 1, 1) := by decide +kernel
theorem dX12_behindUnit_59 : decode cX12_behindUnit 59 = .ok (.isub, 1) := by decide +kernel
theorem dX12_behindUnit_60 : decode cX12_behindUnit 60 = .ok (.putfield 284, 3) := by decide +kernel
theorem dX12_behindUnit_63 : decode cX12_behindUnit 63 = .ok (.aload_n 0, 1) := by decide +kernel
theorem dX12_behindUnit_64 : decode cX12_behindUnit 64 = .ok (.getfield 68, 3) := by decide +kernel
theorem dX12_behindUnit_67 : decode cX12_behindUnit 67 = .ok (.aload_n 0, 1) := by decide +kernel
theorem dX12_behindUnit_68 : decode cX12_behindUnit 68 = .ok (.getfield 284, 3) := by decide +kernel
theorem dX12_behindUnit_71 : decode cX12_behindUnit 71 = .ok (.iaload, 1) := by decide +kernel
theorem dX12_behindUnit_72 : decode cX12_behindUnit 72 = .ok (.iconst 3, 1) := by decide +kernel
theorem dX12_behindUnit_73 : decode cX12_behindUnit 73 = .ok (.if_icmp .ne 13, 3) := by decide +kernel
theorem dX12_behindUnit_86 : decode cX12_behindUnit 86 = .ok (.aload_n 0, 1) := by decide +kernel
theorem dX12_behindUnit_87 : decode cX12_behindUnit 87 = .ok (.aload_n 0, 1) := by decide +kernel
theorem dX12_behindUnit_88 : decode cX12_behindUnit 88 = .ok (.getfield 71, 3) := by decide +kernel
theorem dX12_behindUnit_91 : decode cX12_behindUnit 91 = .ok (.aload_n 0, 1) := by decide +kernel
theorem dX12_behindUnit_92 : decode cX12_behindUnit 92 = .ok (.getfield 284, 3) := by decide +kernel
theorem dX12_behindUnit_95 : decode cX12_behindUnit 95 = .ok (.iaload, 1) := by decide +kernel
theorem dX12_behindUnit_96 : decode cX12_behindUnit 96 = .ok (.iconst 0, 1) := by decide +kernel
theorem dX12_behindUnit_97 : decode cX12_behindUnit 97 = .ok (.invokevirtual 302, 3) := by decide +kernel
theorem dX12_behindUnit_100 : decode cX12_behindUnit 100 = .ok (.goto (-77), 3) := by decide +kernel
theorem dX12_behindUnit_76 : decode cX12_behindUnit 76 = .ok (.aload_n 0, 1) := by decide +kernel
theorem dX12_behindUnit_77 : decode cX12_behindUnit 77 = .ok (.dup, 1) := by decide +kernel
theorem dX12_behindUnit_78 : decode cX12_behindUnit 78 = .ok (.getfield 287, 3) := by decide +kernel
theorem dX12_behindUnit_81 : decode cX12_behindUnit 81 = .ok (.iconst 1, 1) := by decide +kernel
theorem dX12_behindUnit_82 : decode cX12_behindUnit 82 = .ok (.isub, 1) := by decide +kernel
theorem dX12_behindUnit_83 : decode cX12_behindUnit 83 = .ok (.putfield 287, 3) := by decide +kernel
theorem dX12_behindUnit_5 : decode cX12_behindUnit 5 = .ok (.iload_n 1, 1) := by decide +kernel
theorem dX12_behindUnit_6 : decode cX12_behindUnit 6 = .ok (.iconst 4, 1) := by decide +kernel
theorem dX12_behindUnit_7 : decode cX12_behindUnit 7 = .ok (.if_icmp .ne 16, 3) := by decide +kernel
theorem dX12_behindUnit_10 : decode cX12_behindUnit 10 = .ok (.aload_n 0, 1) := by decide +kernel
theorem dX12_behindUnit_11 : decode cX12_behindUnit 11 = .ok (.invokevirtual 308, 3) := by decide +kernel
theorem dX12_behindUnit_14 : decode cX12_behindUnit 14 = .ok (.ifCond .eq 9, 3) := by decide +kernel
theorem dX12_behindUnit_17 : decode cX12_behindUnit 17 = .ok (.aload_n 0, 1) := by decide +kernel
theorem dX12_behindUnit_18 : decode cX12_behindUnit 18 = .ok (.invokevirtual 215, 3) := by decide +kernel
theorem dX12_behindUnit_21 : decode cX12_behindUnit 21 = .ok (.iconst 1, 1) := by decide +kernel
theorem dX12_behindUnit_22 : decode cX12_behindUnit 22 = .ok (.ireturn, 1) := by decide +kernel
set_option maxHeartbeats 4000000 in
set_option maxRecDepth 100000 in
theorem m_behindUnit (l : Launch) (G : va_G) (cy : Nat → ClassId) (sz : Nat) (mo : Nat) (h : Nat → Nat) (T : Int) (v : Nat → Int32) (nm : Int64) (f : Nat → Nat → Int32) (g : Nat → Nat → Int64)  (Fz : Int) (hv : MIv T v) (hf : MIf f) (hR : RI v f) (hL : WL v f) (he : (v 7).toInt ≤ (v 3).toInt) (hE : EI 0 (v 30).toInt Fz (v 31).toInt (v 33).toInt (v 32).toInt (f 13 (Int32.toNatClampNeg (v 30))).toInt (f 26) (f 27) (f 24) (f 25)) (hfk : (v 4).toInt = 0) (hp1 : 1 ≤ (v 33).toInt) (hrb : (v 30).toInt + (v 29).toInt = 1) : Met l yX12_behindUnit (.code yX12_behindUnit cX12_behindUnit 2 (some .boolean) :: TBg) ({ frames := 4, cells := 0, slots := 0, locals := 256 }) (va_Pc [.ref mo] (En G cy (WMs cy mo h v nm f g) sz)) (va_Qi (fun (r : Int32) (u : (Nat → Int32) × Int64 × (Nat → Nat → Int32) × (Nat → Nat → Int64)) => MIv T u.1 ∧ MIf u.2.2.1 ∧ RI u.1 u.2.2.1 ∧ WL u.1 u.2.2.1 ∧ FV [4, 5, 6, 7, 8, 9, 31, 32, 33] v u.1 ∧ FF [24, 25, 26, 27] f u.2.2.1 ∧ ((r.toInt = 0 ∨ r.toInt = 1) ∧ ((u.1 7).toInt ≤ (v 3).toInt)) ∧ (0 ≤ mz (v 3).toInt (u.1 7).toInt (u.1 8).toInt ∧ mz (v 3).toInt (u.1 7).toInt (u.1 8).toInt ≤ mz (v 3).toInt (v 7).toInt (v 8).toInt ∧ ((u.1 4).toInt ≠ 0 ∨ mz (v 3).toInt (u.1 7).toInt (u.1 8).toInt < mz (v 3).toInt (v 7).toInt (v 8).toInt ∨ (u.1 33).toInt < (v 33).toInt)) ∧ ((u.1 4).toInt = 0 → EI r.toInt (v 30).toInt Fz (u.1 31).toInt (u.1 33).toInt (u.1 32).toInt (f 13 (Int32.toNatClampNeg (v 30))).toInt (u.2.2.1 26) (u.2.2.1 27) (u.2.2.1 24) (u.2.2.1 25)) ∧ (OUT Fz (600 * (v 30).toInt + 600) (f 24) (f 25) (u.2.2.1 24) (u.2.2.1 25))) (fun u t => Ex G (va_A (WMs cy mo h v nm f g) sz) (WMs cy mo h u.1 u.2.1 u.2.2.1 u.2.2.2) t) (va_A (WMs cy mo h v nm f g) sz)) 0 0 (va_A (WMs cy mo h v nm f g) sz) := by
  refine Met.ofW (cc := cX12_behindUnit) (maxL := 2) (ret := (some .boolean)) (by decide) rfl ?_
  intro p e s m args below meth c s₁ B hml hv9
  obtain ⟨rfl, hsz, hP, hK, hD0, hN⟩ := hv9
  have hx := B.exec
  have hb := B.bytes
  have hr := B.returns
  have hts := atoms_spec (ws := .code yX12_behindUnit cX12_behindUnit 2 (some .boolean) :: TBg) B.pre
  have ht : ∀ w ∈ TBg, w.before _ s = true := fun w h => hts w (List.mem_cons_of_mem _ h)
  have hown : s.vm.findClass RX12 = some m.cls := findClass_of_methodNamed B.named
  have hlocks := B.notSynchronized
  subst hsz
  have hD := hD0.self (sz := s.heap.size)
  generalize hAe : va_A (WMs cy mo h v nm f g) s.heap.size = A at hD ⊢
  have hA : ∀ q : Nat, s.heap.size ≤ q → A q := fun q h => by rw [← hAe]; exact Or.inr h
  have hS : va_S A s.heap s.heap [] := va_S.rf
  have hl := lv_entry ([.ref mo]) (n := 2) (Nat.le_of_ble_eq_true rfl)
  rw [lg_entry_eq]
  generalize (lg_sl ([.ref mo]) ++ List.replicate (2 - (lg_sl ([.ref mo])).length) Slot.unset).toArray = ls at hl ⊢
  have hl : lv_has ls 2 [(0, .ref mo)] := hl
  have z0 : (0 : Int32).toInt = 0 := by decide
  have z1 : (1 : Int32).toInt = 1 := by decide
  have z2 : (2 : Int32).toInt = 2 := by decide
  have z3 : (3 : Int32).toInt = 3 := by decide
  have z4 : (4 : Int32).toInt = 4 := by decide
  have z5 : (5 : Int32).toInt = 5 := by decide
  have z6 : (6 : Int32).toInt = 6 := by decide
  have z7 : (38 : Int32).toInt = 38 := by decide
  have z8 : (41 : Int32).toInt = 41 := by decide
  have z9 : (124 : Int32).toInt = 124 := by decide
  have hf_0 := hf
  have hV_0 : FV [4, 5, 6, 7, 8, 9, 31, 32, 33] v v := FV.rf
  have hF_0 : FF [24, 25, 26, 27] f f := FF.rf
  have hmz0 : 0 ≤ mz (v 3).toInt (v 7).toInt (v 8).toInt := mz_nn he
  have rg4 : 0 ≤ (v 4).toInt ∧ (v 4).toInt ≤ 5 := hv 4
  have rg29 : 0 ≤ (v 29).toInt ∧ (v 29).toInt ≤ 1 := hv 29
  have rg30 : 0 ≤ (v 30).toInt ∧ (v 30).toInt ≤ 1 := hv 30
  have rg31 : 0 ≤ (v 31).toInt ∧ (v 31).toInt ≤ 1200 := hv 31
  have rg32 : 0 ≤ (v 32).toInt ∧ (v 32).toInt ≤ 7 := hv 32
  have rg33 : 0 ≤ (v 33).toInt ∧ (v 33).toInt ≤ 120 := hv 33
  have rgU : 0 ≤ (f 13 (Int32.toNatClampNeg (v 30))).toInt ∧ (f 13 (Int32.toNatClampNeg (v 30))).toInt ≤ 60 := hf 13 _ (show (Int32.toNatClampNeg (v 30)) < 2 from by rw [ow_tn]; omega)
  have hEn := hE.num (Or.inl rfl)
  have h70 : (f 26 0).toInt = 7 := hE.e0 hp1
  refine lv_aload_n hx hb dX12_behindUnit_0 rfl (lv_at hl 0 rfl) ?_
  have hFc := fr_new hS hA
  refine va_calli (va_runV (As := []) (rest := []) ⟨hx, hb, hml, hown, ht⟩ (m_rankHere l G cy _ mo h T v nm f g   hv hf hR hL) (cwV 0 ht (gv k_264 k_265 k_266 k_61 k_263) rfl rfl rfl (by decide +kernel) ⟨Nat.le_of_ble_eq_true rfl, Nat.le_of_ble_eq_true rfl⟩) ⟨En.blind, va_recv hK hP (ci := 12) (q0 := 0) rfl rfl, fun U hU hW => ⟨rfl, En.of hU hW hP hK hD hN⟩⟩ rfl rfl hl.1 rfl (lv_room (Nat.le_of_ble_eq_true rfl)) dX12_behindUnit_1 ⟨Nat.le_of_ble_eq_true rfl, Nat.le_of_ble_eq_true rfl⟩) hS (fun q _ h => hFc q h) hFc (fun r_u_1 u_1 t9 H locs ht9 hvm hw hB hz1 hk1 hS => ?_)
  have hP := fr_keep hP hk1
  have wu_1 := hw
  clear hFc hk1 hz1 hB hw
  refine lv_istore_n (lv' := [(1, .int r_u_1), (0, .ref mo)]) hx hb dX12_behindUnit_4 rfl hl (by decide) rfl (fun ls hl => ?_)
  refine W.widen (k := 0) (n := 0) (Nat.le_of_ble_eq_true rfl) (Nat.le_of_ble_eq_true rfl) ?_
  have jn_2 : ∀  (H : Heap) (locs : List Loc) (ls : Array Slot), va_P G vwCl (WMs cy mo h v nm f g) H → va_D A (WMs cy mo h v nm f g) → va_S A s.heap H locs → lv_has ls 2 [(1, .int r_u_1), (0, .ref mo)] → W p l e (headSpec (.code yX12_behindUnit cX12_behindUnit 2 (some .boolean) :: TBg) ({ frames := 4, cells := 0, slots := 0, locals := 256 })).room s m ([.ref mo] : List Value).toArray below meth c H locs 0 0 (MQ below (va_Qi (fun (r : Int32) (u : (Nat → Int32) × Int64 × (Nat → Nat → Int32) × (Nat → Nat → Int64)) => MIv T u.1 ∧ MIf u.2.2.1 ∧ RI u.1 u.2.2.1 ∧ WL u.1 u.2.2.1 ∧ FV [4, 5, 6, 7, 8, 9, 31, 32, 33] v u.1 ∧ FF [24, 25, 26, 27] f u.2.2.1 ∧ ((r.toInt = 0 ∨ r.toInt = 1) ∧ ((u.1 7).toInt ≤ (v 3).toInt)) ∧ (0 ≤ mz (v 3).toInt (u.1 7).toInt (u.1 8).toInt ∧ mz (v 3).toInt (u.1 7).toInt (u.1 8).toInt ≤ mz (v 3).toInt (v 7).toInt (v 8).toInt ∧ ((u.1 4).toInt ≠ 0 ∨ mz (v 3).toInt (u.1 7).toInt (u.1 8).toInt < mz (v 3).toInt (v 7).toInt (v 8).toInt ∨ (u.1 33).toInt < (v 33).toInt)) ∧ ((u.1 4).toInt = 0 → EI r.toInt (v 30).toInt Fz (u.1 31).toInt (u.1 33).toInt (u.1 32).toInt (f 13 (Int32.toNatClampNeg (v 30))).toInt (u.2.2.1 26) (u.2.2.1 27) (u.2.2.1 24) (u.2.2.1 25)) ∧ (OUT Fz (600 * (v 30).toInt + 600) (f 24) (f 25) (u.2.2.1 24) (u.2.2.1 25))) (fun u t => Ex G A (WMs cy mo h u.1 u.2.1 u.2.2.1 u.2.2.2) t) A) ([.ref mo] : List Value).toArray s 0 0 A) (F0 m 23 ls []) := by
    intro H locs ls hP hD hS hl
    refine W.widen (k := 0) (n := 0) (Nat.le_of_ble_eq_true rfl) (Nat.le_of_ble_eq_true rfl) ?_
    have lp_3 : ∀ (N_3 : Nat) (v3 : Nat → Int32) (nm3 : Int64) (f3 : Nat → Nat → Int32) (g3 : Nat → Nat → Int64) (H : Heap) (locs : List Loc) (ls : Array Slot), MIv T v3 → MIf f3 → RI v3 f3 → WL v3 f3 → FV [31, 32, 33] v v3 → FF [24, 25] f f3 → (EI 0 (v 30).toInt Fz (v3 31).toInt (v3 33).toInt (v3 32).toInt ((f 13) (Int32.toNatClampNeg (v 30))).toInt (f 26) (f 27) (f3 24) (f3 25)) → (OUT Fz (600 * (v 30).toInt + 600) (f 24) (f 25) (f3 24) (f3 25)) → (1 ≤ (v3 33).toInt ∧ (v3 33).toInt ≤ (v 33).toInt) → ((v3 33).toInt).toNat < N_3 → va_P G vwCl (WMs cy mo h v3 nm3 f3 g3) H → va_D A (WMs cy mo h v3 nm3 f3 g3) → va_S A s.heap H locs → lv_has ls 2 [(1, .int r_u_1), (0, .ref mo)] → W p l e (headSpec (.code yX12_behindUnit cX12_behindUnit 2 (some .boolean) :: TBg) ({ frames := 4, cells := 0, slots := 0, locals := 256 })).room s m ([.ref mo] : List Value).toArray below meth c H locs 0 0 (MQ below (va_Qi (fun (r : Int32) (u : (Nat → Int32) × Int64 × (Nat → Nat → Int32) × (Nat → Nat → Int64)) => MIv T u.1 ∧ MIf u.2.2.1 ∧ RI u.1 u.2.2.1 ∧ WL u.1 u.2.2.1 ∧ FV [4, 5, 6, 7, 8, 9, 31, 32, 33] v u.1 ∧ FF [24, 25, 26, 27] f u.2.2.1 ∧ ((r.toInt = 0 ∨ r.toInt = 1) ∧ ((u.1 7).toInt ≤ (v 3).toInt)) ∧ (0 ≤ mz (v 3).toInt (u.1 7).toInt (u.1 8).toInt ∧ mz (v 3).toInt (u.1 7).toInt (u.1 8).toInt ≤ mz (v 3).toInt (v 7).toInt (v 8).toInt ∧ ((u.1 4).toInt ≠ 0 ∨ mz (v 3).toInt (u.1 7).toInt (u.1 8).toInt < mz (v 3).toInt (v 7).toInt (v 8).toInt ∨ (u.1 33).toInt < (v 33).toInt)) ∧ ((u.1 4).toInt = 0 → EI r.toInt (v 30).toInt Fz (u.1 31).toInt (u.1 33).toInt (u.1 32).toInt (f 13 (Int32.toNatClampNeg (v 30))).toInt (u.2.2.1 26) (u.2.2.1 27) (u.2.2.1 24) (u.2.2.1 25)) ∧ (OUT Fz (600 * (v 30).toInt + 600) (f 24) (f 25) (u.2.2.1 24) (u.2.2.1 25))) (fun u t => Ex G A (WMs cy mo h u.1 u.2.1 u.2.2.1 u.2.2.2) t) A) ([.ref mo] : List Value).toArray s 0 0 A) (F0 m 23 ls []) := by
      intro N_3
      induction N_3 with
      | zero => intro v3 nm3 f3 g3 H locs ls hv hf hR hL hV_3 hF_3 qf3_0 qf3_1 qf3_2 hm hP hD hS hl; exact absurd hm (Nat.not_lt_zero _)
      | succ N_3 ih_3 =>
        intro v3 nm3 f3 g3 H locs ls hv hf hR hL hV_3 hF_3 qf3_0 qf3_1 qf3_2 hm hP hD hS hl
        replace hV_0 := FV.tr hV_0 hV_3 (by decide)
        replace hF_0 := FF.tr hF_0 hF_3 (by decide)
        replace hW_3 := hV_3
        replace hY_3 := hF_3
        have rq32 : 0 ≤ (v3 32).toInt ∧ (v3 32).toInt ≤ 7 := hv 32
        have rq31 : 0 ≤ (v3 31).toInt ∧ (v3 31).toInt ≤ 1200 := hv 31
        have hEm := qf3_0.num (Or.inl rfl)
        refine lv_aload_n hx hb dX12_behindUnit_23 rfl (lv_at hl 1 rfl) ?_
        refine mg_26 hx hb ht hown hK hP dX12_behindUnit_24 ?_
        refine lv_aload_n hx hb dX12_behindUnit_27 rfl (lv_at hl 1 rfl) ?_
        refine mg_33 hx hb ht hown hK hP dX12_behindUnit_28 ?_
        have q_4 : 0 ≤ (v3 33).toInt ∧ (v3 33).toInt ≤ 120 := hv 33
        refine lv_iconst (v := 1) hx hb dX12_behindUnit_31 (by decide) ?_
        refine lv_isub hx hb dX12_behindUnit_32 ?_
        refine lv_topi (fun v_5 ev_5 => ?_)
        have q_6 : v_5.toInt = (v3 33).toInt - (1 : Int32).toInt := ow_sub ev_5 (by omega) (by omega)
        have q_7 : vp_in v_5 120 := vp_in_iff.mpr ⟨by omega, by omega⟩
        refine ml_26 hx hb hK hP q_7 dX12_behindUnit_33 ?_
        refine lv_topi (fun v_8 ev_8 => ?_)
        have q_9 : v_8.toInt = ((f 26) (Int32.toNatClampNeg v_5)).toInt := (congrArg Int32.toInt ev_8).trans (congrArg (fun z : Nat → Int32 => (z (Int32.toNatClampNeg v_5)).toInt) (show f3 26 = (f 26) from (hF_3 26 (by decide))))
        refine lv_iconst (v := 5) hx hb dX12_behindUnit_34 (by decide) ?_
        refine lv_icmp_gt (tgt := 103) hx hb dX12_behindUnit_35 (by decide) (fun c_10 => ?_) (fun c_10 => ?_)
        · have q_11 : (5 : Int32).toInt < v_8.toInt := (ow_lt _ _).mp c_10
          refine lv_iload_n hx hb dX12_behindUnit_103 rfl (lv_at hl 0 rfl) ?_
          refine lv_if_le (tgt := 146) hx hb dX12_behindUnit_104 (by decide) (fun c_12 => ?_) (fun c_12 => ?_)
          · have q_13 : r_u_1.toInt ≤ (0 : Int32).toInt := (ow_le _ _).mp c_12
            have x1 : (f 26 (Int32.toNatClampNeg v_5)).toInt = (f 26 ((v3 33).toInt.toNat - 1)).toInt := by rw [show (Int32.toNatClampNeg v_5) = (v3 33).toInt.toNat - 1 from by rw [ow_tn]; omega]
            have hok9 := qf3_0.pe ((v3 33).toInt.toNat - 1) (by omega)
            unfold okE at hok9
            refine lv_aload_n hx hb dX12_behindUnit_146 rfl (lv_at hl 1 rfl) ?_
            refine lv_dup hx hb dX12_behindUnit_147 rfl ?_
            refine mg_33 hx hb ht hown hK hP dX12_behindUnit_148 ?_
            refine lv_iconst (v := 1) hx hb dX12_behindUnit_151 (by decide) ?_
            refine lv_isub hx hb dX12_behindUnit_152 ?_
            refine lv_topi (fun v_14 ev_14 => ?_)
            have q_15 : v_14.toInt = (v3 33).toInt - (1 : Int32).toInt := ow_sub ev_14 (by omega) (by omega)
            refine mp_33 hx hb ht hown hK hP hD hS dX12_behindUnit_153 (fun H locs hP hD hS => ?_)
            replace hv := MIv.up 33 hv (show 0 ≤ v_14.toInt ∧ v_14.toInt ≤ 120 from by omega)
            replace hL : WL (va_up v3 33 v_14) f3 := WL.upv 33 hL (by decide)
            replace hR : RI (va_up v3 33 v_14) f3 := RI.upv 33 hR (by decide)
            replace hV_0 := FV.up hV_0 33 v_14 (by decide)
            refine lv_aload_n hx hb dX12_behindUnit_156 rfl (lv_at hl 1 rfl) ?_
            refine mg_26 hx hb ht hown hK hP dX12_behindUnit_157 ?_
            refine lv_aload_n hx hb dX12_behindUnit_160 rfl (lv_at hl 1 rfl) ?_
            refine mg_33 hx hb ht hown hK hP dX12_behindUnit_161 ?_
            refine ow_top v_14 rfl ?_
            have q_16 : vp_in v_14 120 := vp_in_iff.mpr ⟨by omega, by omega⟩
            refine ml_26 hx hb hK hP q_16 dX12_behindUnit_164 ?_
            refine lv_topi (fun v_17 ev_17 => ?_)
            have q_18 : v_17.toInt = ((f 26) (Int32.toNatClampNeg v_14)).toInt := (congrArg Int32.toInt ev_17).trans (congrArg (fun z : Nat → Int32 => (z (Int32.toNatClampNeg v_14)).toInt) (show f3 26 = (f 26) from (hF_3 26 (by decide))))
            have x2 : (f 26 (Int32.toNatClampNeg v_14)).toInt = (f 26 ((v3 33).toInt.toNat - 1)).toInt := by rw [show (Int32.toNatClampNeg v_14) = (v3 33).toInt.toNat - 1 from by rw [ow_tn]; omega]
            refine lv_bipush (v := 6) hx hb dX12_behindUnit_165 (by decide) ?_
            refine lv_icmp_ne (tgt := 190) hx hb dX12_behindUnit_167 (by decide) (fun c_19 => ?_) (fun c_19 => ?_)
            · have q_20 : ¬ v_17.toInt = (6 : Int32).toInt := by have := (not_congr (ow_eq _ _)).mp c_19; omega
              refine lv_iconst (v := 0) hx hb dX12_behindUnit_190 (by decide) ?_
              refine W.widen (k := 0) (n := 0) (Nat.le_of_ble_eq_true rfl) (Nat.le_of_ble_eq_true rfl) ?_
              exact W.zret (v := 0) hx hb hr rfl (fun t ht9 hW => ⟨⟨0, ((va_up v3 33 v_14), nm3, f3, g3), rfl, ⟨hv, hf, hR, hL, hV_0, hF_0, ⟨(by omega), (show (v3 7).toInt ≤ (v 3).toInt from by rw [(show v3 7 = (v 7) from (hV_3 7 (by decide)))]; first | omega | (subst_vars; first | rfl | omega))⟩, (show 0 ≤ mz (v 3).toInt (v3 7).toInt (v3 8).toInt ∧ mz (v 3).toInt (v3 7).toInt (v3 8).toInt ≤ mz (v 3).toInt (v 7).toInt (v 8).toInt ∧ ((v3 4).toInt ≠ 0 ∨ mz (v 3).toInt (v3 7).toInt (v3 8).toInt < mz (v 3).toInt (v 7).toInt (v 8).toInt ∨ v_14.toInt < (v 33).toInt) from by rw [(show v3 7 = (v 7) from (hV_3 7 (by decide))), (show v3 8 = (v 8) from (hV_3 8 (by decide))), (show v3 4 = (v 4) from (hV_3 4 (by decide)))]; omega), (show (v3 4).toInt = 0 → EI (0 : Int32).toInt (v 30).toInt Fz (v3 31).toInt v_14.toInt (v3 32).toInt (f 13 (Int32.toNatClampNeg (v 30))).toInt (f3 26) (f3 27) (f3 24) (f3 25) from by rw [(show v3 4 = (v 4) from (hV_3 4 (by decide))), (show f3 26 = (f 26) from (hF_3 26 (by decide))), (show f3 27 = (f 27) from (hF_3 27 (by decide)))]; exact fun h9 => EI.cast (EI.close (w' := (v3 32).toInt) qf3_0 (by omega) (by omega) (by omega)).2 (by omega) (by omega) (by omega) (by omega) rfl), (show OUT Fz (600 * (v 30).toInt + 600) (f 24) (f 25) (f3 24) (f3 25) from by exact qf3_1)⟩, ⟨by rw [ht9]; exact hP, hD⟩⟩, hS.F ht9⟩) hS.2.2 dX12_behindUnit_191
            · have q_21 : v_17.toInt = (6 : Int32).toInt := (ow_eq _ _).mp c_19
              have hw1 := EI.top qf3_0 (by omega) (by omega)
              refine lv_aload_n hx hb dX12_behindUnit_170 rfl (lv_at hl 1 rfl) ?_
              refine lv_dup hx hb dX12_behindUnit_171 rfl ?_
              refine mg_32 hx hb ht hown hK hP dX12_behindUnit_172 ?_
              refine ow_top (v3 32) rfl ?_
              have q_22 : 0 ≤ (v3 32).toInt ∧ (v3 32).toInt ≤ 7 := hv 32
              refine lv_iconst (v := 1) hx hb dX12_behindUnit_175 (by decide) ?_
              refine lv_isub hx hb dX12_behindUnit_176 ?_
              refine lv_topi (fun v_23 ev_23 => ?_)
              have q_24 : v_23.toInt = (v3 32).toInt - (1 : Int32).toInt := ow_sub ev_23 (by omega) (by omega)
              refine mp_32 hx hb ht hown hK hP hD hS dX12_behindUnit_177 (fun H locs hP hD hS => ?_)
              replace hv := MIv.up 32 hv (show 0 ≤ v_23.toInt ∧ v_23.toInt ≤ 7 from by omega)
              replace hL : WL (va_up (va_up v3 33 v_14) 32 v_23) f3 := WL.upv 32 hL (by decide)
              replace hR : RI (va_up (va_up v3 33 v_14) 32 v_23) f3 := RI.upv 32 hR (by decide)
              replace hV_0 := FV.up hV_0 32 v_23 (by decide)
              refine lv_aload_n hx hb dX12_behindUnit_180 rfl (lv_at hl 1 rfl) ?_
              refine lv_aload_n hx hb dX12_behindUnit_181 rfl (lv_at hl 1 rfl) ?_
              refine lv_bipush (v := 41) hx hb dX12_behindUnit_182 (by decide) ?_
              have hFc := fr_new hS hA
              refine va_calli (va_runV (As := [.int 41]) (rest := [.ref mo]) ⟨hx, hb, hml, hown, ht⟩ (m_stands l G cy _ mo h T (va_up (va_up v3 33 v_14) 32 v_23) nm3 f3 g3 (41)  hv hf hR hL) (cwV 1 ht (gv k_244 k_245 k_246 k_61 k_243) rfl rfl rfl (by decide +kernel) ⟨Nat.le_of_ble_eq_true rfl, Nat.le_of_ble_eq_true rfl⟩) ⟨En.blind, va_recv hK hP (ci := 12) (q0 := 0) rfl rfl, fun U hU hW => ⟨rfl, En.of hU hW hP hK hD hN⟩⟩ rfl rfl hl.1 rfl (lv_room (Nat.le_of_ble_eq_true rfl)) dX12_behindUnit_184 ⟨Nat.le_of_ble_eq_true rfl, Nat.le_of_ble_eq_true rfl⟩) hS (fun q _ h => hFc q h) hFc (fun r_u_25 u_25 t9 H locs ht9 hvm hw hB hz1 hk1 hS => ?_)
              have hP := fr_keep hP hk1
              have wu_25 := hw
              clear hFc hk1 hz1 hB hw
              replace wu_25 : (r_u_25.toInt = 0 ∨ r_u_25.toInt = 1) ∧ (r_u_25.toInt = 0 ∨ (r_u_25.toInt = 1 ∧ (v 8).toInt = 5 ∧ sgn (v 3).toInt (f 1) (v 6).toInt = (41 : Int32).toInt)) := by
                have h9 : (r_u_25.toInt = 0 ∨ r_u_25.toInt = 1) ∧ (r_u_25.toInt = 0 ∨ (r_u_25.toInt = 1 ∧ (v3 8).toInt = 5 ∧ sgn (v3 3).toInt (f3 1) (v3 6).toInt = (41 : Int32).toInt)) := wu_25
                rw [(show v3 8 = (v 8) from (hV_3 8 (by decide))), (show v3 3 = (v 3) from (hV_3 3 (by decide))), (show v3 6 = (v 6) from (hV_3 6 (by decide))), (show f3 1 = (f 1) from (hF_3 1 (by decide)))] at h9
                exact h9
              have hFc := fr_free hD hS hA
              refine va_callv (va_runV (As := [.int r_u_25]) (rest := []) ⟨hx, hb, hml, hown, ht⟩ (m_must l G cy _ mo h T (va_up (va_up v3 33 v_14) 32 v_23) nm3 f3 g3 r_u_25  hv hf hR hL (by omega) (show (v3 7).toInt ≤ (v3 3).toInt from by rw [(show v3 7 = (v 7) from (hV_3 7 (by decide))), (show v3 3 = (v 3) from (hV_3 3 (by decide)))]; omega)) (cwV 1 ht (gv k_268 k_269 k_270 k_61 k_267) rfl rfl rfl (by decide +kernel) ⟨Nat.le_of_ble_eq_true rfl, Nat.le_of_ble_eq_true rfl⟩) ⟨En.blind, va_recv hK hP (ci := 12) (q0 := 0) rfl rfl, fun U hU hW => ⟨rfl, En.of hU hW hP hK hD hN⟩⟩ rfl rfl hl.1 rfl (lv_room (Nat.le_of_ble_eq_true rfl)) dX12_behindUnit_187 ⟨Nat.le_of_ble_eq_true rfl, Nat.le_of_ble_eq_true rfl⟩) hS (fun q _ h => hFc q h) hFc (fun u_26 t9 H locs ht9 hvm hw hB hz1 hk1 hS => ?_)
              obtain ⟨v26, nm26⟩ := u_26
              obtain ⟨hP1, hD1⟩ := hB
              rw [ht9] at hP1
              obtain ⟨hv, xu_26V, wu_26, xu_26_M⟩ := hw
              dsimp only at hv xu_26V wu_26 xu_26_M
              have hP : va_P G vwCl (WMs cy mo h v26 nm26 f3 g3) H := hP1
              have hD : va_D A (WMs cy mo h v26 nm26 f3 g3) := hD1.weaken (fun _ _ _ h => hFc _ h)
              replace hR : RI v26 f3 := RI.fv hR xu_26V (by decide)
              replace hL : WL v26 f3 := WL.fv hL xu_26V (by decide) (by decide)
              replace hV_0 := FV.tr hV_0 xu_26V (by decide)
              clear hFc hk1 hz1 hP1 hD1
              replace wu_26 : ((v26 7).toInt ≤ (v 3).toInt ∧ ((v26 4).toInt ≠ 0 ∨ (v 4).toInt = 0)) := by
                have h9 : ((v26 7).toInt ≤ (v3 3).toInt ∧ ((v26 4).toInt ≠ 0 ∨ (v3 4).toInt = 0)) := wu_26
                rw [(show v3 3 = (v 3) from (hV_3 3 (by decide))), (show v3 4 = (v 4) from (hV_3 4 (by decide)))] at h9
                exact h9
              replace xu_26_M : 0 ≤ mz (v 3).toInt (v26 7).toInt (v26 8).toInt ∧ mz (v 3).toInt (v26 7).toInt (v26 8).toInt ≤ mz (v 3).toInt (v 7).toInt (v 8).toInt := by
                have h9 : 0 ≤ mz (v3 3).toInt (v26 7).toInt (v26 8).toInt ∧ mz (v3 3).toInt (v26 7).toInt (v26 8).toInt ≤ mz (v3 3).toInt (v3 7).toInt (v3 8).toInt := xu_26_M
                rw [(show v3 3 = (v 3) from (hV_3 3 (by decide))), (show v3 7 = (v 7) from (hV_3 7 (by decide))), (show v3 8 = (v 8) from (hV_3 8 (by decide)))] at h9
                exact h9
              refine lv_iconst (v := 0) hx hb dX12_behindUnit_190 (by decide) ?_
              refine W.widen (k := 0) (n := 0) (Nat.le_of_ble_eq_true rfl) (Nat.le_of_ble_eq_true rfl) ?_
              exact W.zret (v := 0) hx hb hr rfl (fun t ht9 hW => ⟨⟨0, (v26, nm26, f3, g3), rfl, ⟨hv, hf, hR, hL, hV_0, hF_0, ⟨(by omega), (show (v26 7).toInt ≤ (v 3).toInt from by first | omega | (subst_vars; first | rfl | omega))⟩, (show 0 ≤ mz (v 3).toInt (v26 7).toInt (v26 8).toInt ∧ mz (v 3).toInt (v26 7).toInt (v26 8).toInt ≤ mz (v 3).toInt (v 7).toInt (v 8).toInt ∧ ((v26 4).toInt ≠ 0 ∨ mz (v 3).toInt (v26 7).toInt (v26 8).toInt < mz (v 3).toInt (v 7).toInt (v 8).toInt ∨ (v26 33).toInt < (v 33).toInt) from by rw [(show v26 33 = v_14 from (xu_26V 33 (by decide)))]; omega), (show (v26 4).toInt = 0 → EI (0 : Int32).toInt (v 30).toInt Fz (v26 31).toInt (v26 33).toInt (v26 32).toInt (f 13 (Int32.toNatClampNeg (v 30))).toInt (f3 26) (f3 27) (f3 24) (f3 25) from by rw [(show v26 31 = (v3 31) from (xu_26V 31 (by decide))), (show v26 33 = v_14 from (xu_26V 33 (by decide))), (show v26 32 = v_23 from (xu_26V 32 (by decide))), (show f3 26 = (f 26) from (hF_3 26 (by decide))), (show f3 27 = (f 27) from (hF_3 27 (by decide)))]; exact fun h9 => EI.cast (EI.close (w' := v_23.toInt) qf3_0 (by omega) (by omega) (by omega)).2 (by omega) (by omega) (by omega) (by omega) rfl), (show OUT Fz (600 * (v 30).toInt + 600) (f 24) (f 25) (f3 24) (f3 25) from by exact qf3_1)⟩, ⟨by rw [ht9]; exact hP, hD⟩⟩, hS.F ht9⟩) hS.2.2 dX12_behindUnit_191
          · have q_27 : (0 : Int32).toInt < r_u_1.toInt := by have := (not_congr (ow_le _ _)).mp c_12; omega
            refine lv_aload_n hx hb dX12_behindUnit_107 rfl (lv_at hl 1 rfl) ?_
            refine lv_iload_n hx hb dX12_behindUnit_108 rfl (lv_at hl 0 rfl) ?_
            refine lv_iload_n hx hb dX12_behindUnit_109 rfl (lv_at hl 0 rfl) ?_
            refine lv_iconst (v := 2) hx hb dX12_behindUnit_110 (by decide) ?_
            refine lv_icmp_ne (tgt := 119) hx hb dX12_behindUnit_111 (by decide) (fun c_28 => ?_) (fun c_28 => ?_)
            · have q_29 : ¬ r_u_1.toInt = (2 : Int32).toInt := by have := (not_congr (ow_eq _ _)).mp c_28; omega
              refine lv_iload_n hx hb dX12_behindUnit_119 rfl (lv_at hl 0 rfl) ?_
              refine lv_iconst (v := 1) hx hb dX12_behindUnit_120 (by decide) ?_
              refine lv_icmp_ne (tgt := 129) hx hb dX12_behindUnit_121 (by decide) (fun c_30 => ?_) (fun c_30 => ?_)
              · have q_31 : ¬ r_u_1.toInt = (1 : Int32).toInt := by have := (not_congr (ow_eq _ _)).mp c_30; omega
                refine lv_aload_n hx hb dX12_behindUnit_129 rfl (lv_at hl 1 rfl) ?_
                refine lv_aload_n hx hb dX12_behindUnit_130 rfl (lv_at hl 1 rfl) ?_
                refine mg_6 hx hb ht hown hK hP dX12_behindUnit_131 ?_
                refine ow_top (v 6) (hV_3 6 (by decide)) ?_
                have q_32 : 0 ≤ (v 6).toInt ∧ (v 6).toInt ≤ 1700 := by have h9 : v3 6 = (v 6) := (hV_3 6 (by decide)); rw [← h9]; exact hv 6
                have hFc := fr_new hS hA
                refine va_calli (va_runV (As := [.int (v 6)]) (rest := [.int r_u_1, .ref mo]) ⟨hx, hb, hml, hown, ht⟩ (m_sign l G cy _ mo h T v3 nm3 f3 g3 (v 6)  hv hf hR hL (by omega)) (cwV 1 ht (gv k_207 k_208 k_209 k_61 k_206) rfl rfl rfl (by decide +kernel) ⟨Nat.le_of_ble_eq_true rfl, Nat.le_of_ble_eq_true rfl⟩) ⟨En.blind, va_recv hK hP (ci := 12) (q0 := 0) rfl rfl, fun U hU hW => ⟨rfl, En.of hU hW hP hK hD hN⟩⟩ rfl rfl hl.1 rfl (lv_room (Nat.le_of_ble_eq_true rfl)) dX12_behindUnit_134 ⟨Nat.le_of_ble_eq_true rfl, Nat.le_of_ble_eq_true rfl⟩) hS (fun q _ h => hFc q h) hFc (fun r_u_33 u_33 t9 H locs ht9 hvm hw hB hz1 hk1 hS => ?_)
                have hP := fr_keep hP hk1
                have wu_33 := hw
                clear hFc hk1 hz1 hB hw
                replace wu_33 : (0 ≤ r_u_33.toInt ∧ r_u_33.toInt ≤ 255) ∧ (r_u_33.toInt = sgn (v 3).toInt (f 1) (v 6).toInt ∧ (r_u_33.toInt = 0 ∨ (v 6).toInt < (v 3).toInt)) := by
                  have h9 : (0 ≤ r_u_33.toInt ∧ r_u_33.toInt ≤ 255) ∧ (r_u_33.toInt = sgn (v3 3).toInt (f3 1) (v 6).toInt ∧ (r_u_33.toInt = 0 ∨ (v 6).toInt < (v3 3).toInt)) := wu_33
                  rw [(show v3 3 = (v 3) from (hV_3 3 (by decide))), (show f3 1 = (f 1) from (hF_3 1 (by decide)))] at h9
                  exact h9
                have hFc := fr_free hD hS hA
                refine va_callv (va_runV (As := [.int r_u_1, .int r_u_33]) (rest := []) ⟨hx, hb, hml, hown, ht⟩ (m_pushE l G cy _ mo h T v3 nm3 f3 g3 r_u_1 r_u_33 ((v3 33)) hv hf hR hL rfl (show 0 ≤ ((v3 33)).toInt ∧ ((v3 33)).toInt ≤ 119 from by omega)) (cwV 2 ht (gv k_252 k_253 k_254 k_61 k_251) rfl rfl rfl (by decide +kernel) ⟨Nat.le_of_ble_eq_true rfl, Nat.le_of_ble_eq_true rfl⟩) ⟨En.blind, va_recv hK hP (ci := 12) (q0 := 0) rfl rfl, fun U hU hW => ⟨rfl, En.of hU hW hP hK hD hN⟩⟩ rfl rfl hl.1 rfl (lv_room (Nat.le_of_ble_eq_true rfl)) dX12_behindUnit_137 ⟨Nat.le_of_ble_eq_true rfl, Nat.le_of_ble_eq_true rfl⟩) hS (fun q _ h => hFc q h) hFc (fun u_34 t9 H locs ht9 hvm hw hB hz1 hk1 hS => ?_)
                obtain ⟨hP1, hD1⟩ := hB
                rw [ht9] at hP1
                have wu_34 := hw
                have q_36 : ((v3 33) + 1).toInt = (v3 33).toInt + 1 := ow_add rfl (by omega) (by omega)
                replace hv := MIv.up 33 hv (show 0 ≤ ((v3 33) + 1).toInt ∧ ((v3 33) + 1).toInt ≤ 120 from by omega)
                replace hR : RI (va_up v3 33 ((v3 33) + 1)) f3 := RI.upv 33 hR (by decide)
                replace hL : WL (va_up v3 33 ((v3 33) + 1)) f3 := WL.upv 33 hL (by decide)
                replace hV_0 := FV.up hV_0 33 ((v3 33) + 1) (by decide)
                replace hf := MIf.up 26 (i := (Int32.toNatClampNeg (v3 33))) hf (ow_any r_u_1)
                replace hF_0 := FF.up hF_0 26 (upd (f3 26) (Int32.toNatClampNeg (v3 33)) r_u_1) (by decide)
                replace hR : RI (va_up v3 33 ((v3 33) + 1)) (va_up f3 26 (upd (f3 26) (Int32.toNatClampNeg (v3 33)) r_u_1)) := RI.up 26 hR (by decide)
                replace hL : WL (va_up v3 33 ((v3 33) + 1)) (va_up f3 26 (upd (f3 26) (Int32.toNatClampNeg (v3 33)) r_u_1)) := WL.upf 26 hL (by decide)
                replace hf := MIf.up 27 (i := (Int32.toNatClampNeg (v3 33))) hf (ow_any r_u_33)
                replace hF_0 := FF.up hF_0 27 (upd ((va_up f3 26 (upd (f3 26) (Int32.toNatClampNeg (v3 33)) r_u_1)) 27) (Int32.toNatClampNeg (v3 33)) r_u_33) (by decide)
                replace hR : RI (va_up v3 33 ((v3 33) + 1)) (va_up (va_up f3 26 (upd (f3 26) (Int32.toNatClampNeg (v3 33)) r_u_1)) 27 (upd ((va_up f3 26 (upd (f3 26) (Int32.toNatClampNeg (v3 33)) r_u_1)) 27) (Int32.toNatClampNeg (v3 33)) r_u_33)) := RI.up 27 hR (by decide)
                replace hL : WL (va_up v3 33 ((v3 33) + 1)) (va_up (va_up f3 26 (upd (f3 26) (Int32.toNatClampNeg (v3 33)) r_u_1)) 27 (upd ((va_up f3 26 (upd (f3 26) (Int32.toNatClampNeg (v3 33)) r_u_1)) 27) (Int32.toNatClampNeg (v3 33)) r_u_33)) := WL.upf 27 hL (by decide)
                have hP : va_P G vwCl (WMs cy mo h (va_up v3 33 ((v3 33) + 1)) nm3 (va_up (va_up f3 26 (upd (f3 26) (Int32.toNatClampNeg (v3 33)) r_u_1)) 27 (upd ((va_up f3 26 (upd (f3 26) (Int32.toNatClampNeg (v3 33)) r_u_1)) 27) (Int32.toNatClampNeg (v3 33)) r_u_33)) g3) H := hP1
                have hD : va_D A (WMs cy mo h (va_up v3 33 ((v3 33) + 1)) nm3 (va_up (va_up f3 26 (upd (f3 26) (Int32.toNatClampNeg (v3 33)) r_u_1)) 27 (upd ((va_up f3 26 (upd (f3 26) (Int32.toNatClampNeg (v3 33)) r_u_1)) 27) (Int32.toNatClampNeg (v3 33)) r_u_33)) g3) := hD1.weaken (fun _ _ _ h => hFc _ h)
                clear hFc hk1 hz1 hP1 hD1 hw
                refine lv_aload_n hx hb dX12_behindUnit_140 rfl (lv_at hl 1 rfl) ?_
                have hFc := fr_free hD hS hA
                refine va_callv (va_runV (As := []) (rest := []) ⟨hx, hb, hml, hown, ht⟩ (m_goOn l G cy _ mo h T (va_up v3 33 ((v3 33) + 1)) nm3 (va_up (va_up f3 26 (upd (f3 26) (Int32.toNatClampNeg (v3 33)) r_u_1)) 27 (upd ((va_up f3 26 (upd (f3 26) (Int32.toNatClampNeg (v3 33)) r_u_1)) 27) (Int32.toNatClampNeg (v3 33)) r_u_33)) g3   hv hf hR hL (show (v3 7).toInt ≤ (v3 3).toInt from by rw [(show v3 7 = (v 7) from (hV_3 7 (by decide))), (show v3 3 = (v 3) from (hV_3 3 (by decide)))]; omega)) (cwV 0 ht (gv k_232 k_233 k_234 k_61 k_231) rfl rfl rfl (by decide +kernel) ⟨Nat.le_of_ble_eq_true rfl, Nat.le_of_ble_eq_true rfl⟩) ⟨En.blind, va_recv hK hP (ci := 12) (q0 := 0) rfl rfl, fun U hU hW => ⟨rfl, En.of hU hW hP hK hD hN⟩⟩ rfl rfl hl.1 rfl (lv_room (Nat.le_of_ble_eq_true rfl)) dX12_behindUnit_141 ⟨Nat.le_of_ble_eq_true rfl, Nat.le_of_ble_eq_true rfl⟩) hS (fun q _ h => hFc q h) hFc (fun u_37 t9 H locs ht9 hvm hw hB hz1 hk1 hS => ?_)
                obtain ⟨v37, nm37⟩ := u_37
                obtain ⟨hP1, hD1⟩ := hB
                rw [ht9] at hP1
                obtain ⟨hv, xu_37V, wu_37, xu_37_M⟩ := hw
                dsimp only at hv xu_37V wu_37 xu_37_M
                have hP : va_P G vwCl (WMs cy mo h v37 nm37 (va_up (va_up f3 26 (upd (f3 26) (Int32.toNatClampNeg (v3 33)) r_u_1)) 27 (upd ((va_up f3 26 (upd (f3 26) (Int32.toNatClampNeg (v3 33)) r_u_1)) 27) (Int32.toNatClampNeg (v3 33)) r_u_33)) g3) H := hP1
                have hD : va_D A (WMs cy mo h v37 nm37 (va_up (va_up f3 26 (upd (f3 26) (Int32.toNatClampNeg (v3 33)) r_u_1)) 27 (upd ((va_up f3 26 (upd (f3 26) (Int32.toNatClampNeg (v3 33)) r_u_1)) 27) (Int32.toNatClampNeg (v3 33)) r_u_33)) g3) := hD1.weaken (fun _ _ _ h => hFc _ h)
                replace hR : RI v37 (va_up (va_up f3 26 (upd (f3 26) (Int32.toNatClampNeg (v3 33)) r_u_1)) 27 (upd ((va_up f3 26 (upd (f3 26) (Int32.toNatClampNeg (v3 33)) r_u_1)) 27) (Int32.toNatClampNeg (v3 33)) r_u_33)) := RI.fv hR xu_37V (by decide)
                replace hL : WL v37 (va_up (va_up f3 26 (upd (f3 26) (Int32.toNatClampNeg (v3 33)) r_u_1)) 27 (upd ((va_up f3 26 (upd (f3 26) (Int32.toNatClampNeg (v3 33)) r_u_1)) 27) (Int32.toNatClampNeg (v3 33)) r_u_33)) := WL.fv hL xu_37V (by decide) (by decide)
                replace hV_0 := FV.tr hV_0 xu_37V (by decide)
                clear hFc hk1 hz1 hP1 hD1
                replace wu_37 : ((v37 7).toInt ≤ (v 3).toInt ∧ (((v37 8).toInt = 0 ∧ (v37 7).toInt = (v 3).toInt) ∨ ((v37 8).toInt ≠ 0 ∧ (v 7).toInt < (v37 7).toInt))) := by
                  have h9 : ((v37 7).toInt ≤ (v3 3).toInt ∧ (((v37 8).toInt = 0 ∧ (v37 7).toInt = (v3 3).toInt) ∨ ((v37 8).toInt ≠ 0 ∧ (v3 7).toInt < (v37 7).toInt))) := wu_37
                  rw [(show v3 3 = (v 3) from (hV_3 3 (by decide))), (show v3 7 = (v 7) from (hV_3 7 (by decide)))] at h9
                  exact h9
                replace xu_37_M : 0 ≤ mz (v 3).toInt (v37 7).toInt (v37 8).toInt ∧ mz (v 3).toInt (v37 7).toInt (v37 8).toInt ≤ mz (v 3).toInt (v 7).toInt (v 8).toInt ∧ ((v 8).toInt = 0 ∨ mz (v 3).toInt (v37 7).toInt (v37 8).toInt < mz (v 3).toInt (v 7).toInt (v 8).toInt) := by
                  have h9 : 0 ≤ mz (v3 3).toInt (v37 7).toInt (v37 8).toInt ∧ mz (v3 3).toInt (v37 7).toInt (v37 8).toInt ≤ mz (v3 3).toInt (v3 7).toInt (v3 8).toInt ∧ ((v3 8).toInt = 0 ∨ mz (v3 3).toInt (v37 7).toInt (v37 8).toInt < mz (v3 3).toInt (v3 7).toInt (v3 8).toInt) := xu_37_M
                  rw [(show v3 3 = (v 3) from (hV_3 3 (by decide))), (show v3 7 = (v 7) from (hV_3 7 (by decide))), (show v3 8 = (v 8) from (hV_3 8 (by decide)))] at h9
                  exact h9
                refine lv_iconst (v := 1) hx hb dX12_behindUnit_144 (by decide) ?_
                refine W.widen (k := 0) (n := 0) (Nat.le_of_ble_eq_true rfl) (Nat.le_of_ble_eq_true rfl) ?_
                exact W.zret (v := 1) hx hb hr rfl (fun t ht9 hW => ⟨⟨1, (v37, nm37, (va_up (va_up f3 26 (upd (f3 26) (Int32.toNatClampNeg (v3 33)) r_u_1)) 27 (upd ((va_up f3 26 (upd (f3 26) (Int32.toNatClampNeg (v3 33)) r_u_1)) 27) (Int32.toNatClampNeg (v3 33)) r_u_33)), g3), rfl, ⟨hv, hf, hR, hL, hV_0, hF_0, ⟨(by omega), (show (v37 7).toInt ≤ (v 3).toInt from by first | omega | (subst_vars; first | rfl | omega))⟩, (show 0 ≤ mz (v 3).toInt (v37 7).toInt (v37 8).toInt ∧ mz (v 3).toInt (v37 7).toInt (v37 8).toInt ≤ mz (v 3).toInt (v 7).toInt (v 8).toInt ∧ ((v37 4).toInt ≠ 0 ∨ mz (v 3).toInt (v37 7).toInt (v37 8).toInt < mz (v 3).toInt (v 7).toInt (v 8).toInt ∨ (v37 33).toInt < (v 33).toInt) from by rw [(show v37 4 = (v 4) from ((xu_37V 4 (by decide)).trans (hV_3 4 (by decide)))), (show v37 33 = ((v3 33) + 1) from (xu_37V 33 (by decide)))]; omega), (show (v37 4).toInt = 0 → EI (1 : Int32).toInt (v 30).toInt Fz (v37 31).toInt (v37 33).toInt (v37 32).toInt (f 13 (Int32.toNatClampNeg (v 30))).toInt ((va_up (va_up f3 26 (upd (f3 26) (Int32.toNatClampNeg (v3 33)) r_u_1)) 27 (upd ((va_up f3 26 (upd (f3 26) (Int32.toNatClampNeg (v3 33)) r_u_1)) 27) (Int32.toNatClampNeg (v3 33)) r_u_33)) 26) ((va_up (va_up f3 26 (upd (f3 26) (Int32.toNatClampNeg (v3 33)) r_u_1)) 27 (upd ((va_up f3 26 (upd (f3 26) (Int32.toNatClampNeg (v3 33)) r_u_1)) 27) (Int32.toNatClampNeg (v3 33)) r_u_33)) 27) (f3 24) (f3 25) from by rw [(show v37 4 = (v 4) from ((xu_37V 4 (by decide)).trans (hV_3 4 (by decide)))), (show v37 31 = (v3 31) from (xu_37V 31 (by decide))), (show v37 33 = ((v3 33) + 1) from (xu_37V 33 (by decide))), (show v37 32 = (v3 32) from (xu_37V 32 (by decide))), (show (va_up (va_up f3 26 (upd (f3 26) (Int32.toNatClampNeg (v3 33)) r_u_1)) 27 (upd ((va_up f3 26 (upd (f3 26) (Int32.toNatClampNeg (v3 33)) r_u_1)) 27) (Int32.toNatClampNeg (v3 33)) r_u_33)) 26 = (upd (f 26) (Int32.toNatClampNeg (v3 33)) r_u_1) from (congrArg (fun z : Nat → Int32 => upd z (Int32.toNatClampNeg (v3 33)) r_u_1) (hF_3 26 (by decide)))), (show (va_up (va_up f3 26 (upd (f3 26) (Int32.toNatClampNeg (v3 33)) r_u_1)) 27 (upd ((va_up f3 26 (upd (f3 26) (Int32.toNatClampNeg (v3 33)) r_u_1)) 27) (Int32.toNatClampNeg (v3 33)) r_u_33)) 27 = (upd (f 27) (Int32.toNatClampNeg (v3 33)) r_u_33) from (congrArg (fun z : Nat → Int32 => upd z (Int32.toNatClampNeg (v3 33)) r_u_33) (hF_3 27 (by decide))))]; exact fun h9 => EI.cast (EI.push qf3_0 (by omega) (by omega) (by omega)) (by omega) (by omega) (by omega) (by omega) rfl), (show OUT Fz (600 * (v 30).toInt + 600) (f 24) (f 25) (f3 24) (f3 25) from by exact qf3_1)⟩, ⟨by rw [ht9]; exact hP, hD⟩⟩, hS.F ht9⟩) hS.2.2 dX12_behindUnit_145
              · have q_38 : r_u_1.toInt = (1 : Int32).toInt := (ow_eq _ _).mp c_30
                refine lv_bipush (v := 124) hx hb dX12_behindUnit_124 (by decide) ?_
                refine lv_goto (tgt := 137) hx hb dX12_behindUnit_126 (by decide) ?_
                have hFc := fr_free hD hS hA
                refine va_callv (va_runV (As := [.int r_u_1, .int 124]) (rest := []) ⟨hx, hb, hml, hown, ht⟩ (m_pushE l G cy _ mo h T v3 nm3 f3 g3 r_u_1 (124) ((v3 33)) hv hf hR hL rfl (show 0 ≤ ((v3 33)).toInt ∧ ((v3 33)).toInt ≤ 119 from by omega)) (cwV 2 ht (gv k_252 k_253 k_254 k_61 k_251) rfl rfl rfl (by decide +kernel) ⟨Nat.le_of_ble_eq_true rfl, Nat.le_of_ble_eq_true rfl⟩) ⟨En.blind, va_recv hK hP (ci := 12) (q0 := 0) rfl rfl, fun U hU hW => ⟨rfl, En.of hU hW hP hK hD hN⟩⟩ rfl rfl hl.1 rfl (lv_room (Nat.le_of_ble_eq_true rfl)) dX12_behindUnit_137 ⟨Nat.le_of_ble_eq_true rfl, Nat.le_of_ble_eq_true rfl⟩) hS (fun q _ h => hFc q h) hFc (fun u_39 t9 H locs ht9 hvm hw hB hz1 hk1 hS => ?_)
                obtain ⟨hP1, hD1⟩ := hB
                rw [ht9] at hP1
                have wu_39 := hw
                have q_41 : ((v3 33) + 1).toInt = (v3 33).toInt + 1 := ow_add rfl (by omega) (by omega)
                replace hv := MIv.up 33 hv (show 0 ≤ ((v3 33) + 1).toInt ∧ ((v3 33) + 1).toInt ≤ 120 from by omega)
                replace hR : RI (va_up v3 33 ((v3 33) + 1)) f3 := RI.upv 33 hR (by decide)
                replace hL : WL (va_up v3 33 ((v3 33) + 1)) f3 := WL.upv 33 hL (by decide)
                replace hV_0 := FV.up hV_0 33 ((v3 33) + 1) (by decide)
                replace hf := MIf.up 26 (i := (Int32.toNatClampNeg (v3 33))) hf (ow_any r_u_1)
                replace hF_0 := FF.up hF_0 26 (upd (f3 26) (Int32.toNatClampNeg (v3 33)) r_u_1) (by decide)
                replace hR : RI (va_up v3 33 ((v3 33) + 1)) (va_up f3 26 (upd (f3 26) (Int32.toNatClampNeg (v3 33)) r_u_1)) := RI.up 26 hR (by decide)
                replace hL : WL (va_up v3 33 ((v3 33) + 1)) (va_up f3 26 (upd (f3 26) (Int32.toNatClampNeg (v3 33)) r_u_1)) := WL.upf 26 hL (by decide)
                replace hf := MIf.up 27 (i := (Int32.toNatClampNeg (v3 33))) hf (ow_any (124 : Int32))
                replace hF_0 := FF.up hF_0 27 (upd ((va_up f3 26 (upd (f3 26) (Int32.toNatClampNeg (v3 33)) r_u_1)) 27) (Int32.toNatClampNeg (v3 33)) (124 : Int32)) (by decide)
                replace hR : RI (va_up v3 33 ((v3 33) + 1)) (va_up (va_up f3 26 (upd (f3 26) (Int32.toNatClampNeg (v3 33)) r_u_1)) 27 (upd ((va_up f3 26 (upd (f3 26) (Int32.toNatClampNeg (v3 33)) r_u_1)) 27) (Int32.toNatClampNeg (v3 33)) (124 : Int32))) := RI.up 27 hR (by decide)
                replace hL : WL (va_up v3 33 ((v3 33) + 1)) (va_up (va_up f3 26 (upd (f3 26) (Int32.toNatClampNeg (v3 33)) r_u_1)) 27 (upd ((va_up f3 26 (upd (f3 26) (Int32.toNatClampNeg (v3 33)) r_u_1)) 27) (Int32.toNatClampNeg (v3 33)) (124 : Int32))) := WL.upf 27 hL (by decide)
                have hP : va_P G vwCl (WMs cy mo h (va_up v3 33 ((v3 33) + 1)) nm3 (va_up (va_up f3 26 (upd (f3 26) (Int32.toNatClampNeg (v3 33)) r_u_1)) 27 (upd ((va_up f3 26 (upd (f3 26) (Int32.toNatClampNeg (v3 33)) r_u_1)) 27) (Int32.toNatClampNeg (v3 33)) (124 : Int32))) g3) H := hP1
                have hD : va_D A (WMs cy mo h (va_up v3 33 ((v3 33) + 1)) nm3 (va_up (va_up f3 26 (upd (f3 26) (Int32.toNatClampNeg (v3 33)) r_u_1)) 27 (upd ((va_up f3 26 (upd (f3 26) (Int32.toNatClampNeg (v3 33)) r_u_1)) 27) (Int32.toNatClampNeg (v3 33)) (124 : Int32))) g3) := hD1.weaken (fun _ _ _ h => hFc _ h)
                clear hFc hk1 hz1 hP1 hD1 hw
                refine lv_aload_n hx hb dX12_behindUnit_140 rfl (lv_at hl 1 rfl) ?_
                have hFc := fr_free hD hS hA
                refine va_callv (va_runV (As := []) (rest := []) ⟨hx, hb, hml, hown, ht⟩ (m_goOn l G cy _ mo h T (va_up v3 33 ((v3 33) + 1)) nm3 (va_up (va_up f3 26 (upd (f3 26) (Int32.toNatClampNeg (v3 33)) r_u_1)) 27 (upd ((va_up f3 26 (upd (f3 26) (Int32.toNatClampNeg (v3 33)) r_u_1)) 27) (Int32.toNatClampNeg (v3 33)) (124 : Int32))) g3   hv hf hR hL (show (v3 7).toInt ≤ (v3 3).toInt from by rw [(show v3 7 = (v 7) from (hV_3 7 (by decide))), (show v3 3 = (v 3) from (hV_3 3 (by decide)))]; omega)) (cwV 0 ht (gv k_232 k_233 k_234 k_61 k_231) rfl rfl rfl (by decide +kernel) ⟨Nat.le_of_ble_eq_true rfl, Nat.le_of_ble_eq_true rfl⟩) ⟨En.blind, va_recv hK hP (ci := 12) (q0 := 0) rfl rfl, fun U hU hW => ⟨rfl, En.of hU hW hP hK hD hN⟩⟩ rfl rfl hl.1 rfl (lv_room (Nat.le_of_ble_eq_true rfl)) dX12_behindUnit_141 ⟨Nat.le_of_ble_eq_true rfl, Nat.le_of_ble_eq_true rfl⟩) hS (fun q _ h => hFc q h) hFc (fun u_42 t9 H locs ht9 hvm hw hB hz1 hk1 hS => ?_)
                obtain ⟨v42, nm42⟩ := u_42
                obtain ⟨hP1, hD1⟩ := hB
                rw [ht9] at hP1
                obtain ⟨hv, xu_42V, wu_42, xu_42_M⟩ := hw
                dsimp only at hv xu_42V wu_42 xu_42_M
                have hP : va_P G vwCl (WMs cy mo h v42 nm42 (va_up (va_up f3 26 (upd (f3 26) (Int32.toNatClampNeg (v3 33)) r_u_1)) 27 (upd ((va_up f3 26 (upd (f3 26) (Int32.toNatClampNeg (v3 33)) r_u_1)) 27) (Int32.toNatClampNeg (v3 33)) (124 : Int32))) g3) H := hP1
                have hD : va_D A (WMs cy mo h v42 nm42 (va_up (va_up f3 26 (upd (f3 26) (Int32.toNatClampNeg (v3 33)) r_u_1)) 27 (upd ((va_up f3 26 (upd (f3 26) (Int32.toNatClampNeg (v3 33)) r_u_1)) 27) (Int32.toNatClampNeg (v3 33)) (124 : Int32))) g3) := hD1.weaken (fun _ _ _ h => hFc _ h)
                replace hR : RI v42 (va_up (va_up f3 26 (upd (f3 26) (Int32.toNatClampNeg (v3 33)) r_u_1)) 27 (upd ((va_up f3 26 (upd (f3 26) (Int32.toNatClampNeg (v3 33)) r_u_1)) 27) (Int32.toNatClampNeg (v3 33)) (124 : Int32))) := RI.fv hR xu_42V (by decide)
                replace hL : WL v42 (va_up (va_up f3 26 (upd (f3 26) (Int32.toNatClampNeg (v3 33)) r_u_1)) 27 (upd ((va_up f3 26 (upd (f3 26) (Int32.toNatClampNeg (v3 33)) r_u_1)) 27) (Int32.toNatClampNeg (v3 33)) (124 : Int32))) := WL.fv hL xu_42V (by decide) (by decide)
                replace hV_0 := FV.tr hV_0 xu_42V (by decide)
                clear hFc hk1 hz1 hP1 hD1
                replace wu_42 : ((v42 7).toInt ≤ (v 3).toInt ∧ (((v42 8).toInt = 0 ∧ (v42 7).toInt = (v 3).toInt) ∨ ((v42 8).toInt ≠ 0 ∧ (v 7).toInt < (v42 7).toInt))) := by
                  have h9 : ((v42 7).toInt ≤ (v3 3).toInt ∧ (((v42 8).toInt = 0 ∧ (v42 7).toInt = (v3 3).toInt) ∨ ((v42 8).toInt ≠ 0 ∧ (v3 7).toInt < (v42 7).toInt))) := wu_42
                  rw [(show v3 3 = (v 3) from (hV_3 3 (by decide))), (show v3 7 = (v 7) from (hV_3 7 (by decide)))] at h9
                  exact h9
                replace xu_42_M : 0 ≤ mz (v 3).toInt (v42 7).toInt (v42 8).toInt ∧ mz (v 3).toInt (v42 7).toInt (v42 8).toInt ≤ mz (v 3).toInt (v 7).toInt (v 8).toInt ∧ ((v 8).toInt = 0 ∨ mz (v 3).toInt (v42 7).toInt (v42 8).toInt < mz (v 3).toInt (v 7).toInt (v 8).toInt) := by
                  have h9 : 0 ≤ mz (v3 3).toInt (v42 7).toInt (v42 8).toInt ∧ mz (v3 3).toInt (v42 7).toInt (v42 8).toInt ≤ mz (v3 3).toInt (v3 7).toInt (v3 8).toInt ∧ ((v3 8).toInt = 0 ∨ mz (v3 3).toInt (v42 7).toInt (v42 8).toInt < mz (v3 3).toInt (v3 7).toInt (v3 8).toInt) := xu_42_M
                  rw [(show v3 3 = (v 3) from (hV_3 3 (by decide))), (show v3 7 = (v 7) from (hV_3 7 (by decide))), (show v3 8 = (v 8) from (hV_3 8 (by decide)))] at h9
                  exact h9
                refine lv_iconst (v := 1) hx hb dX12_behindUnit_144 (by decide) ?_
                refine W.widen (k := 0) (n := 0) (Nat.le_of_ble_eq_true rfl) (Nat.le_of_ble_eq_true rfl) ?_
                exact W.zret (v := 1) hx hb hr rfl (fun t ht9 hW => ⟨⟨1, (v42, nm42, (va_up (va_up f3 26 (upd (f3 26) (Int32.toNatClampNeg (v3 33)) r_u_1)) 27 (upd ((va_up f3 26 (upd (f3 26) (Int32.toNatClampNeg (v3 33)) r_u_1)) 27) (Int32.toNatClampNeg (v3 33)) (124 : Int32))), g3), rfl, ⟨hv, hf, hR, hL, hV_0, hF_0, ⟨(by omega), (show (v42 7).toInt ≤ (v 3).toInt from by first | omega | (subst_vars; first | rfl | omega))⟩, (show 0 ≤ mz (v 3).toInt (v42 7).toInt (v42 8).toInt ∧ mz (v 3).toInt (v42 7).toInt (v42 8).toInt ≤ mz (v 3).toInt (v 7).toInt (v 8).toInt ∧ ((v42 4).toInt ≠ 0 ∨ mz (v 3).toInt (v42 7).toInt (v42 8).toInt < mz (v 3).toInt (v 7).toInt (v 8).toInt ∨ (v42 33).toInt < (v 33).toInt) from by rw [(show v42 4 = (v 4) from ((xu_42V 4 (by decide)).trans (hV_3 4 (by decide)))), (show v42 33 = ((v3 33) + 1) from (xu_42V 33 (by decide)))]; omega), (show (v42 4).toInt = 0 → EI (1 : Int32).toInt (v 30).toInt Fz (v42 31).toInt (v42 33).toInt (v42 32).toInt (f 13 (Int32.toNatClampNeg (v 30))).toInt ((va_up (va_up f3 26 (upd (f3 26) (Int32.toNatClampNeg (v3 33)) r_u_1)) 27 (upd ((va_up f3 26 (upd (f3 26) (Int32.toNatClampNeg (v3 33)) r_u_1)) 27) (Int32.toNatClampNeg (v3 33)) (124 : Int32))) 26) ((va_up (va_up f3 26 (upd (f3 26) (Int32.toNatClampNeg (v3 33)) r_u_1)) 27 (upd ((va_up f3 26 (upd (f3 26) (Int32.toNatClampNeg (v3 33)) r_u_1)) 27) (Int32.toNatClampNeg (v3 33)) (124 : Int32))) 27) (f3 24) (f3 25) from by rw [(show v42 4 = (v 4) from ((xu_42V 4 (by decide)).trans (hV_3 4 (by decide)))), (show v42 31 = (v3 31) from (xu_42V 31 (by decide))), (show v42 33 = ((v3 33) + 1) from (xu_42V 33 (by decide))), (show v42 32 = (v3 32) from (xu_42V 32 (by decide))), (show (va_up (va_up f3 26 (upd (f3 26) (Int32.toNatClampNeg (v3 33)) r_u_1)) 27 (upd ((va_up f3 26 (upd (f3 26) (Int32.toNatClampNeg (v3 33)) r_u_1)) 27) (Int32.toNatClampNeg (v3 33)) (124 : Int32))) 26 = (upd (f 26) (Int32.toNatClampNeg (v3 33)) r_u_1) from (congrArg (fun z : Nat → Int32 => upd z (Int32.toNatClampNeg (v3 33)) r_u_1) (hF_3 26 (by decide)))), (show (va_up (va_up f3 26 (upd (f3 26) (Int32.toNatClampNeg (v3 33)) r_u_1)) 27 (upd ((va_up f3 26 (upd (f3 26) (Int32.toNatClampNeg (v3 33)) r_u_1)) 27) (Int32.toNatClampNeg (v3 33)) (124 : Int32))) 27 = (upd (f 27) (Int32.toNatClampNeg (v3 33)) (124 : Int32)) from (congrArg (fun z : Nat → Int32 => upd z (Int32.toNatClampNeg (v3 33)) (124 : Int32)) (hF_3 27 (by decide))))]; exact fun h9 => EI.cast (EI.push qf3_0 (by omega) (by omega) (by omega)) (by omega) (by omega) (by omega) (by omega) rfl), (show OUT Fz (600 * (v 30).toInt + 600) (f 24) (f 25) (f3 24) (f3 25) from by exact qf3_1)⟩, ⟨by rw [ht9]; exact hP, hD⟩⟩, hS.F ht9⟩) hS.2.2 dX12_behindUnit_145
            · have q_43 : r_u_1.toInt = (2 : Int32).toInt := (ow_eq _ _).mp c_28
              refine lv_bipush (v := 38) hx hb dX12_behindUnit_114 (by decide) ?_
              refine lv_goto (tgt := 137) hx hb dX12_behindUnit_116 (by decide) ?_
              have hFc := fr_free hD hS hA
              refine va_callv (va_runV (As := [.int r_u_1, .int 38]) (rest := []) ⟨hx, hb, hml, hown, ht⟩ (m_pushE l G cy _ mo h T v3 nm3 f3 g3 r_u_1 (38) ((v3 33)) hv hf hR hL rfl (show 0 ≤ ((v3 33)).toInt ∧ ((v3 33)).toInt ≤ 119 from by omega)) (cwV 2 ht (gv k_252 k_253 k_254 k_61 k_251) rfl rfl rfl (by decide +kernel) ⟨Nat.le_of_ble_eq_true rfl, Nat.le_of_ble_eq_true rfl⟩) ⟨En.blind, va_recv hK hP (ci := 12) (q0 := 0) rfl rfl, fun U hU hW => ⟨rfl, En.of hU hW hP hK hD hN⟩⟩ rfl rfl hl.1 rfl (lv_room (Nat.le_of_ble_eq_true rfl)) dX12_behindUnit_137 ⟨Nat.le_of_ble_eq_true rfl, Nat.le_of_ble_eq_true rfl⟩) hS (fun q _ h => hFc q h) hFc (fun u_44 t9 H locs ht9 hvm hw hB hz1 hk1 hS => ?_)
              obtain ⟨hP1, hD1⟩ := hB
              rw [ht9] at hP1
              have wu_44 := hw
              have q_46 : ((v3 33) + 1).toInt = (v3 33).toInt + 1 := ow_add rfl (by omega) (by omega)
              replace hv := MIv.up 33 hv (show 0 ≤ ((v3 33) + 1).toInt ∧ ((v3 33) + 1).toInt ≤ 120 from by omega)
              replace hR : RI (va_up v3 33 ((v3 33) + 1)) f3 := RI.upv 33 hR (by decide)
              replace hL : WL (va_up v3 33 ((v3 33) + 1)) f3 := WL.upv 33 hL (by decide)
              replace hV_0 := FV.up hV_0 33 ((v3 33) + 1) (by decide)
              replace hf := MIf.up 26 (i := (Int32.toNatClampNeg (v3 33))) hf (ow_any r_u_1)
              replace hF_0 := FF.up hF_0 26 (upd (f3 26) (Int32.toNatClampNeg (v3 33)) r_u_1) (by decide)
              replace hR : RI (va_up v3 33 ((v3 33) + 1)) (va_up f3 26 (upd (f3 26) (Int32.toNatClampNeg (v3 33)) r_u_1)) := RI.up 26 hR (by decide)
              replace hL : WL (va_up v3 33 ((v3 33) + 1)) (va_up f3 26 (upd (f3 26) (Int32.toNatClampNeg (v3 33)) r_u_1)) := WL.upf 26 hL (by decide)
              replace hf := MIf.up 27 (i := (Int32.toNatClampNeg (v3 33))) hf (ow_any (38 : Int32))
              replace hF_0 := FF.up hF_0 27 (upd ((va_up f3 26 (upd (f3 26) (Int32.toNatClampNeg (v3 33)) r_u_1)) 27) (Int32.toNatClampNeg (v3 33)) (38 : Int32)) (by decide)
              replace hR : RI (va_up v3 33 ((v3 33) + 1)) (va_up (va_up f3 26 (upd (f3 26) (Int32.toNatClampNeg (v3 33)) r_u_1)) 27 (upd ((va_up f3 26 (upd (f3 26) (Int32.toNatClampNeg (v3 33)) r_u_1)) 27) (Int32.toNatClampNeg (v3 33)) (38 : Int32))) := RI.up 27 hR (by decide)
              replace hL : WL (va_up v3 33 ((v3 33) + 1)) (va_up (va_up f3 26 (upd (f3 26) (Int32.toNatClampNeg (v3 33)) r_u_1)) 27 (upd ((va_up f3 26 (upd (f3 26) (Int32.toNatClampNeg (v3 33)) r_u_1)) 27) (Int32.toNatClampNeg (v3 33)) (38 : Int32))) := WL.upf 27 hL (by decide)
              have hP : va_P G vwCl (WMs cy mo h (va_up v3 33 ((v3 33) + 1)) nm3 (va_up (va_up f3 26 (upd (f3 26) (Int32.toNatClampNeg (v3 33)) r_u_1)) 27 (upd ((va_up f3 26 (upd (f3 26) (Int32.toNatClampNeg (v3 33)) r_u_1)) 27) (Int32.toNatClampNeg (v3 33)) (38 : Int32))) g3) H := hP1
              have hD : va_D A (WMs cy mo h (va_up v3 33 ((v3 33) + 1)) nm3 (va_up (va_up f3 26 (upd (f3 26) (Int32.toNatClampNeg (v3 33)) r_u_1)) 27 (upd ((va_up f3 26 (upd (f3 26) (Int32.toNatClampNeg (v3 33)) r_u_1)) 27) (Int32.toNatClampNeg (v3 33)) (38 : Int32))) g3) := hD1.weaken (fun _ _ _ h => hFc _ h)
              clear hFc hk1 hz1 hP1 hD1 hw
              refine lv_aload_n hx hb dX12_behindUnit_140 rfl (lv_at hl 1 rfl) ?_
              have hFc := fr_free hD hS hA
              refine va_callv (va_runV (As := []) (rest := []) ⟨hx, hb, hml, hown, ht⟩ (m_goOn l G cy _ mo h T (va_up v3 33 ((v3 33) + 1)) nm3 (va_up (va_up f3 26 (upd (f3 26) (Int32.toNatClampNeg (v3 33)) r_u_1)) 27 (upd ((va_up f3 26 (upd (f3 26) (Int32.toNatClampNeg (v3 33)) r_u_1)) 27) (Int32.toNatClampNeg (v3 33)) (38 : Int32))) g3   hv hf hR hL (show (v3 7).toInt ≤ (v3 3).toInt from by rw [(show v3 7 = (v 7) from (hV_3 7 (by decide))), (show v3 3 = (v 3) from (hV_3 3 (by decide)))]; omega)) (cwV 0 ht (gv k_232 k_233 k_234 k_61 k_231) rfl rfl rfl (by decide +kernel) ⟨Nat.le_of_ble_eq_true rfl, Nat.le_of_ble_eq_true rfl⟩) ⟨En.blind, va_recv hK hP (ci := 12) (q0 := 0) rfl rfl, fun U hU hW => ⟨rfl, En.of hU hW hP hK hD hN⟩⟩ rfl rfl hl.1 rfl (lv_room (Nat.le_of_ble_eq_true rfl)) dX12_behindUnit_141 ⟨Nat.le_of_ble_eq_true rfl, Nat.le_of_ble_eq_true rfl⟩) hS (fun q _ h => hFc q h) hFc (fun u_47 t9 H locs ht9 hvm hw hB hz1 hk1 hS => ?_)
              obtain ⟨v47, nm47⟩ := u_47
              obtain ⟨hP1, hD1⟩ := hB
              rw [ht9] at hP1
              obtain ⟨hv, xu_47V, wu_47, xu_47_M⟩ := hw
              dsimp only at hv xu_47V wu_47 xu_47_M
              have hP : va_P G vwCl (WMs cy mo h v47 nm47 (va_up (va_up f3 26 (upd (f3 26) (Int32.toNatClampNeg (v3 33)) r_u_1)) 27 (upd ((va_up f3 26 (upd (f3 26) (Int32.toNatClampNeg (v3 33)) r_u_1)) 27) (Int32.toNatClampNeg (v3 33)) (38 : Int32))) g3) H := hP1
              have hD : va_D A (WMs cy mo h v47 nm47 (va_up (va_up f3 26 (upd (f3 26) (Int32.toNatClampNeg (v3 33)) r_u_1)) 27 (upd ((va_up f3 26 (upd (f3 26) (Int32.toNatClampNeg (v3 33)) r_u_1)) 27) (Int32.toNatClampNeg (v3 33)) (38 : Int32))) g3) := hD1.weaken (fun _ _ _ h => hFc _ h)
              replace hR : RI v47 (va_up (va_up f3 26 (upd (f3 26) (Int32.toNatClampNeg (v3 33)) r_u_1)) 27 (upd ((va_up f3 26 (upd (f3 26) (Int32.toNatClampNeg (v3 33)) r_u_1)) 27) (Int32.toNatClampNeg (v3 33)) (38 : Int32))) := RI.fv hR xu_47V (by decide)
              replace hL : WL v47 (va_up (va_up f3 26 (upd (f3 26) (Int32.toNatClampNeg (v3 33)) r_u_1)) 27 (upd ((va_up f3 26 (upd (f3 26) (Int32.toNatClampNeg (v3 33)) r_u_1)) 27) (Int32.toNatClampNeg (v3 33)) (38 : Int32))) := WL.fv hL xu_47V (by decide) (by decide)
              replace hV_0 := FV.tr hV_0 xu_47V (by decide)
              clear hFc hk1 hz1 hP1 hD1
              replace wu_47 : ((v47 7).toInt ≤ (v 3).toInt ∧ (((v47 8).toInt = 0 ∧ (v47 7).toInt = (v 3).toInt) ∨ ((v47 8).toInt ≠ 0 ∧ (v 7).toInt < (v47 7).toInt))) := by
                have h9 : ((v47 7).toInt ≤ (v3 3).toInt ∧ (((v47 8).toInt = 0 ∧ (v47 7).toInt = (v3 3).toInt) ∨ ((v47 8).toInt ≠ 0 ∧ (v3 7).toInt < (v47 7).toInt))) := wu_47
                rw [(show v3 3 = (v 3) from (hV_3 3 (by decide))), (show v3 7 = (v 7) from (hV_3 7 (by decide)))] at h9
                exact h9
              replace xu_47_M : 0 ≤ mz (v 3).toInt (v47 7).toInt (v47 8).toInt ∧ mz (v 3).toInt (v47 7).toInt (v47 8).toInt ≤ mz (v 3).toInt (v 7).toInt (v 8).toInt ∧ ((v 8).toInt = 0 ∨ mz (v 3).toInt (v47 7).toInt (v47 8).toInt < mz (v 3).toInt (v 7).toInt (v 8).toInt) := by
                have h9 : 0 ≤ mz (v3 3).toInt (v47 7).toInt (v47 8).toInt ∧ mz (v3 3).toInt (v47 7).toInt (v47 8).toInt ≤ mz (v3 3).toInt (v3 7).toInt (v3 8).toInt ∧ ((v3 8).toInt = 0 ∨ mz (v3 3).toInt (v47 7).toInt (v47 8).toInt < mz (v3 3).toInt (v3 7).toInt (v3 8).toInt) := xu_47_M
                rw [(show v3 3 = (v 3) from (hV_3 3 (by decide))), (show v3 7 = (v 7) from (hV_3 7 (by decide))), (show v3 8 = (v 8) from (hV_3 8 (by decide)))] at h9
                exact h9
              refine lv_iconst (v := 1) hx hb dX12_behindUnit_144 (by decide) ?_
              refine W.widen (k := 0) (n := 0) (Nat.le_of_ble_eq_true rfl) (Nat.le_of_ble_eq_true rfl) ?_
              exact W.zret (v := 1) hx hb hr rfl (fun t ht9 hW => ⟨⟨1, (v47, nm47, (va_up (va_up f3 26 (upd (f3 26) (Int32.toNatClampNeg (v3 33)) r_u_1)) 27 (upd ((va_up f3 26 (upd (f3 26) (Int32.toNatClampNeg (v3 33)) r_u_1)) 27) (Int32.toNatClampNeg (v3 33)) (38 : Int32))), g3), rfl, ⟨hv, hf, hR, hL, hV_0, hF_0, ⟨(by omega), (show (v47 7).toInt ≤ (v 3).toInt from by first | omega | (subst_vars; first | rfl | omega))⟩, (show 0 ≤ mz (v 3).toInt (v47 7).toInt (v47 8).toInt ∧ mz (v 3).toInt (v47 7).toInt (v47 8).toInt ≤ mz (v 3).toInt (v 7).toInt (v 8).toInt ∧ ((v47 4).toInt ≠ 0 ∨ mz (v 3).toInt (v47 7).toInt (v47 8).toInt < mz (v 3).toInt (v 7).toInt (v 8).toInt ∨ (v47 33).toInt < (v 33).toInt) from by rw [(show v47 4 = (v 4) from ((xu_47V 4 (by decide)).trans (hV_3 4 (by decide)))), (show v47 33 = ((v3 33) + 1) from (xu_47V 33 (by decide)))]; omega), (show (v47 4).toInt = 0 → EI (1 : Int32).toInt (v 30).toInt Fz (v47 31).toInt (v47 33).toInt (v47 32).toInt (f 13 (Int32.toNatClampNeg (v 30))).toInt ((va_up (va_up f3 26 (upd (f3 26) (Int32.toNatClampNeg (v3 33)) r_u_1)) 27 (upd ((va_up f3 26 (upd (f3 26) (Int32.toNatClampNeg (v3 33)) r_u_1)) 27) (Int32.toNatClampNeg (v3 33)) (38 : Int32))) 26) ((va_up (va_up f3 26 (upd (f3 26) (Int32.toNatClampNeg (v3 33)) r_u_1)) 27 (upd ((va_up f3 26 (upd (f3 26) (Int32.toNatClampNeg (v3 33)) r_u_1)) 27) (Int32.toNatClampNeg (v3 33)) (38 : Int32))) 27) (f3 24) (f3 25) from by rw [(show v47 4 = (v 4) from ((xu_47V 4 (by decide)).trans (hV_3 4 (by decide)))), (show v47 31 = (v3 31) from (xu_47V 31 (by decide))), (show v47 33 = ((v3 33) + 1) from (xu_47V 33 (by decide))), (show v47 32 = (v3 32) from (xu_47V 32 (by decide))), (show (va_up (va_up f3 26 (upd (f3 26) (Int32.toNatClampNeg (v3 33)) r_u_1)) 27 (upd ((va_up f3 26 (upd (f3 26) (Int32.toNatClampNeg (v3 33)) r_u_1)) 27) (Int32.toNatClampNeg (v3 33)) (38 : Int32))) 26 = (upd (f 26) (Int32.toNatClampNeg (v3 33)) r_u_1) from (congrArg (fun z : Nat → Int32 => upd z (Int32.toNatClampNeg (v3 33)) r_u_1) (hF_3 26 (by decide)))), (show (va_up (va_up f3 26 (upd (f3 26) (Int32.toNatClampNeg (v3 33)) r_u_1)) 27 (upd ((va_up f3 26 (upd (f3 26) (Int32.toNatClampNeg (v3 33)) r_u_1)) 27) (Int32.toNatClampNeg (v3 33)) (38 : Int32))) 27 = (upd (f 27) (Int32.toNatClampNeg (v3 33)) (38 : Int32)) from (congrArg (fun z : Nat → Int32 => upd z (Int32.toNatClampNeg (v3 33)) (38 : Int32)) (hF_3 27 (by decide))))]; exact fun h9 => EI.cast (EI.push qf3_0 (by omega) (by omega) (by omega)) (by omega) (by omega) (by omega) (by omega) rfl), (show OUT Fz (600 * (v 30).toInt + 600) (f 24) (f 25) (f3 24) (f3 25) from by exact qf3_1)⟩, ⟨by rw [ht9]; exact hP, hD⟩⟩, hS.F ht9⟩) hS.2.2 dX12_behindUnit_145
        · have q_48 : v_8.toInt ≤ (5 : Int32).toInt := by have := (not_congr (ow_lt _ _)).mp c_10; omega
          refine lv_aload_n hx hb dX12_behindUnit_38 rfl (lv_at hl 1 rfl) ?_
          refine mg_26 hx hb ht hown hK hP dX12_behindUnit_39 ?_
          refine lv_aload_n hx hb dX12_behindUnit_42 rfl (lv_at hl 1 rfl) ?_
          refine mg_33 hx hb ht hown hK hP dX12_behindUnit_43 ?_
          refine lv_iconst (v := 1) hx hb dX12_behindUnit_46 (by decide) ?_
          refine lv_isub hx hb dX12_behindUnit_47 ?_
          refine lv_topi (fun v_49 ev_49 => ?_)
          have q_50 : v_49.toInt = (v3 33).toInt - (1 : Int32).toInt := ow_sub ev_49 (by omega) (by omega)
          have q_51 : vp_in v_49 120 := vp_in_iff.mpr ⟨by omega, by omega⟩
          refine ml_26 hx hb hK hP q_51 dX12_behindUnit_48 ?_
          refine lv_topi (fun v_52 ev_52 => ?_)
          have q_53 : v_52.toInt = ((f 26) (Int32.toNatClampNeg v_49)).toInt := (congrArg Int32.toInt ev_52).trans (congrArg (fun z : Nat → Int32 => (z (Int32.toNatClampNeg v_49)).toInt) (show f3 26 = (f 26) from (hF_3 26 (by decide))))
          refine lv_iload_n hx hb dX12_behindUnit_49 rfl (lv_at hl 0 rfl) ?_
          refine lv_icmp_lt (tgt := 103) hx hb dX12_behindUnit_50 (by decide) (fun c_54 => ?_) (fun c_54 => ?_)
          · have q_55 : v_52.toInt < r_u_1.toInt := (ow_lt _ _).mp c_54
            refine lv_iload_n hx hb dX12_behindUnit_103 rfl (lv_at hl 0 rfl) ?_
            refine lv_if_le (tgt := 146) hx hb dX12_behindUnit_104 (by decide) (fun c_56 => ?_) (fun c_56 => ?_)
            · have q_57 : r_u_1.toInt ≤ (0 : Int32).toInt := (ow_le _ _).mp c_56
              have x1 : (f 26 (Int32.toNatClampNeg v_5)).toInt = (f 26 ((v3 33).toInt.toNat - 1)).toInt := by rw [show (Int32.toNatClampNeg v_5) = (v3 33).toInt.toNat - 1 from by rw [ow_tn]; omega]
              have x1b : (f 26 (Int32.toNatClampNeg v_49)).toInt = (f 26 ((v3 33).toInt.toNat - 1)).toInt := by rw [show (Int32.toNatClampNeg v_49) = (v3 33).toInt.toNat - 1 from by rw [ow_tn]; omega]
              have hok9 := qf3_0.pe ((v3 33).toInt.toNat - 1) (by omega)
              unfold okE at hok9
              refine lv_aload_n hx hb dX12_behindUnit_146 rfl (lv_at hl 1 rfl) ?_
              refine lv_dup hx hb dX12_behindUnit_147 rfl ?_
              refine mg_33 hx hb ht hown hK hP dX12_behindUnit_148 ?_
              refine lv_iconst (v := 1) hx hb dX12_behindUnit_151 (by decide) ?_
              refine lv_isub hx hb dX12_behindUnit_152 ?_
              refine lv_topi (fun v_58 ev_58 => ?_)
              have q_59 : v_58.toInt = (v3 33).toInt - (1 : Int32).toInt := ow_sub ev_58 (by omega) (by omega)
              refine mp_33 hx hb ht hown hK hP hD hS dX12_behindUnit_153 (fun H locs hP hD hS => ?_)
              replace hv := MIv.up 33 hv (show 0 ≤ v_58.toInt ∧ v_58.toInt ≤ 120 from by omega)
              replace hL : WL (va_up v3 33 v_58) f3 := WL.upv 33 hL (by decide)
              replace hR : RI (va_up v3 33 v_58) f3 := RI.upv 33 hR (by decide)
              replace hV_0 := FV.up hV_0 33 v_58 (by decide)
              refine lv_aload_n hx hb dX12_behindUnit_156 rfl (lv_at hl 1 rfl) ?_
              refine mg_26 hx hb ht hown hK hP dX12_behindUnit_157 ?_
              refine lv_aload_n hx hb dX12_behindUnit_160 rfl (lv_at hl 1 rfl) ?_
              refine mg_33 hx hb ht hown hK hP dX12_behindUnit_161 ?_
              refine ow_top v_58 rfl ?_
              have q_60 : vp_in v_58 120 := vp_in_iff.mpr ⟨by omega, by omega⟩
              refine ml_26 hx hb hK hP q_60 dX12_behindUnit_164 ?_
              refine lv_topi (fun v_61 ev_61 => ?_)
              have q_62 : v_61.toInt = ((f 26) (Int32.toNatClampNeg v_58)).toInt := (congrArg Int32.toInt ev_61).trans (congrArg (fun z : Nat → Int32 => (z (Int32.toNatClampNeg v_58)).toInt) (show f3 26 = (f 26) from (hF_3 26 (by decide))))
              have x2 : (f 26 (Int32.toNatClampNeg v_58)).toInt = (f 26 ((v3 33).toInt.toNat - 1)).toInt := by rw [show (Int32.toNatClampNeg v_58) = (v3 33).toInt.toNat - 1 from by rw [ow_tn]; omega]
              refine lv_bipush (v := 6) hx hb dX12_behindUnit_165 (by decide) ?_
              refine lv_icmp_ne (tgt := 190) hx hb dX12_behindUnit_167 (by decide) (fun c_63 => ?_) (fun c_63 => ?_)
              · have q_64 : ¬ v_61.toInt = (6 : Int32).toInt := by have := (not_congr (ow_eq _ _)).mp c_63; omega
                refine lv_iconst (v := 0) hx hb dX12_behindUnit_190 (by decide) ?_
                refine W.widen (k := 0) (n := 0) (Nat.le_of_ble_eq_true rfl) (Nat.le_of_ble_eq_true rfl) ?_
                exact W.zret (v := 0) hx hb hr rfl (fun t ht9 hW => ⟨⟨0, ((va_up v3 33 v_58), nm3, f3, g3), rfl, ⟨hv, hf, hR, hL, hV_0, hF_0, ⟨(by omega), (show (v3 7).toInt ≤ (v 3).toInt from by rw [(show v3 7 = (v 7) from (hV_3 7 (by decide)))]; first | omega | (subst_vars; first | rfl | omega))⟩, (show 0 ≤ mz (v 3).toInt (v3 7).toInt (v3 8).toInt ∧ mz (v 3).toInt (v3 7).toInt (v3 8).toInt ≤ mz (v 3).toInt (v 7).toInt (v 8).toInt ∧ ((v3 4).toInt ≠ 0 ∨ mz (v 3).toInt (v3 7).toInt (v3 8).toInt < mz (v 3).toInt (v 7).toInt (v 8).toInt ∨ v_58.toInt < (v 33).toInt) from by rw [(show v3 7 = (v 7) from (hV_3 7 (by decide))), (show v3 8 = (v 8) from (hV_3 8 (by decide))), (show v3 4 = (v 4) from (hV_3 4 (by decide)))]; omega), (show (v3 4).toInt = 0 → EI (0 : Int32).toInt (v 30).toInt Fz (v3 31).toInt v_58.toInt (v3 32).toInt (f 13 (Int32.toNatClampNeg (v 30))).toInt (f3 26) (f3 27) (f3 24) (f3 25) from by rw [(show v3 4 = (v 4) from (hV_3 4 (by decide))), (show f3 26 = (f 26) from (hF_3 26 (by decide))), (show f3 27 = (f 27) from (hF_3 27 (by decide)))]; exact fun h9 => EI.cast (EI.close (w' := (v3 32).toInt) qf3_0 (by omega) (by omega) (by omega)).2 (by omega) (by omega) (by omega) (by omega) rfl), (show OUT Fz (600 * (v 30).toInt + 600) (f 24) (f 25) (f3 24) (f3 25) from by exact qf3_1)⟩, ⟨by rw [ht9]; exact hP, hD⟩⟩, hS.F ht9⟩) hS.2.2 dX12_behindUnit_191
              · have q_65 : v_61.toInt = (6 : Int32).toInt := (ow_eq _ _).mp c_63
                have hw1 := EI.top qf3_0 (by omega) (by omega)
                refine lv_aload_n hx hb dX12_behindUnit_170 rfl (lv_at hl 1 rfl) ?_
                refine lv_dup hx hb dX12_behindUnit_171 rfl ?_
                refine mg_32 hx hb ht hown hK hP dX12_behindUnit_172 ?_
                refine ow_top (v3 32) rfl ?_
                have q_66 : 0 ≤ (v3 32).toInt ∧ (v3 32).toInt ≤ 7 := hv 32
                refine lv_iconst (v := 1) hx hb dX12_behindUnit_175 (by decide) ?_
                refine lv_isub hx hb dX12_behindUnit_176 ?_
                refine lv_topi (fun v_67 ev_67 => ?_)
                have q_68 : v_67.toInt = (v3 32).toInt - (1 : Int32).toInt := ow_sub ev_67 (by omega) (by omega)
                refine mp_32 hx hb ht hown hK hP hD hS dX12_behindUnit_177 (fun H locs hP hD hS => ?_)
                replace hv := MIv.up 32 hv (show 0 ≤ v_67.toInt ∧ v_67.toInt ≤ 7 from by omega)
                replace hL : WL (va_up (va_up v3 33 v_58) 32 v_67) f3 := WL.upv 32 hL (by decide)
                replace hR : RI (va_up (va_up v3 33 v_58) 32 v_67) f3 := RI.upv 32 hR (by decide)
                replace hV_0 := FV.up hV_0 32 v_67 (by decide)
                refine lv_aload_n hx hb dX12_behindUnit_180 rfl (lv_at hl 1 rfl) ?_
                refine lv_aload_n hx hb dX12_behindUnit_181 rfl (lv_at hl 1 rfl) ?_
                refine lv_bipush (v := 41) hx hb dX12_behindUnit_182 (by decide) ?_
                have hFc := fr_new hS hA
                refine va_calli (va_runV (As := [.int 41]) (rest := [.ref mo]) ⟨hx, hb, hml, hown, ht⟩ (m_stands l G cy _ mo h T (va_up (va_up v3 33 v_58) 32 v_67) nm3 f3 g3 (41)  hv hf hR hL) (cwV 1 ht (gv k_244 k_245 k_246 k_61 k_243) rfl rfl rfl (by decide +kernel) ⟨Nat.le_of_ble_eq_true rfl, Nat.le_of_ble_eq_true rfl⟩) ⟨En.blind, va_recv hK hP (ci := 12) (q0 := 0) rfl rfl, fun U hU hW => ⟨rfl, En.of hU hW hP hK hD hN⟩⟩ rfl rfl hl.1 rfl (lv_room (Nat.le_of_ble_eq_true rfl)) dX12_behindUnit_184 ⟨Nat.le_of_ble_eq_true rfl, Nat.le_of_ble_eq_true rfl⟩) hS (fun q _ h => hFc q h) hFc (fun r_u_69 u_69 t9 H locs ht9 hvm hw hB hz1 hk1 hS => ?_)
                have hP := fr_keep hP hk1
                have wu_69 := hw
                clear hFc hk1 hz1 hB hw
                replace wu_69 : (r_u_69.toInt = 0 ∨ r_u_69.toInt = 1) ∧ (r_u_69.toInt = 0 ∨ (r_u_69.toInt = 1 ∧ (v 8).toInt = 5 ∧ sgn (v 3).toInt (f 1) (v 6).toInt = (41 : Int32).toInt)) := by
                  have h9 : (r_u_69.toInt = 0 ∨ r_u_69.toInt = 1) ∧ (r_u_69.toInt = 0 ∨ (r_u_69.toInt = 1 ∧ (v3 8).toInt = 5 ∧ sgn (v3 3).toInt (f3 1) (v3 6).toInt = (41 : Int32).toInt)) := wu_69
                  rw [(show v3 8 = (v 8) from (hV_3 8 (by decide))), (show v3 3 = (v 3) from (hV_3 3 (by decide))), (show v3 6 = (v 6) from (hV_3 6 (by decide))), (show f3 1 = (f 1) from (hF_3 1 (by decide)))] at h9
                  exact h9
                have hFc := fr_free hD hS hA
                refine va_callv (va_runV (As := [.int r_u_69]) (rest := []) ⟨hx, hb, hml, hown, ht⟩ (m_must l G cy _ mo h T (va_up (va_up v3 33 v_58) 32 v_67) nm3 f3 g3 r_u_69  hv hf hR hL (by omega) (show (v3 7).toInt ≤ (v3 3).toInt from by rw [(show v3 7 = (v 7) from (hV_3 7 (by decide))), (show v3 3 = (v 3) from (hV_3 3 (by decide)))]; omega)) (cwV 1 ht (gv k_268 k_269 k_270 k_61 k_267) rfl rfl rfl (by decide +kernel) ⟨Nat.le_of_ble_eq_true rfl, Nat.le_of_ble_eq_true rfl⟩) ⟨En.blind, va_recv hK hP (ci := 12) (q0 := 0) rfl rfl, fun U hU hW => ⟨rfl, En.of hU hW hP hK hD hN⟩⟩ rfl rfl hl.1 rfl (lv_room (Nat.le_of_ble_eq_true rfl)) dX12_behindUnit_187 ⟨Nat.le_of_ble_eq_true rfl, Nat.le_of_ble_eq_true rfl⟩) hS (fun q _ h => hFc q h) hFc (fun u_70 t9 H locs ht9 hvm hw hB hz1 hk1 hS => ?_)
                obtain ⟨v70, nm70⟩ := u_70
                obtain ⟨hP1, hD1⟩ := hB
                rw [ht9] at hP1
                obtain ⟨hv, xu_70V, wu_70, xu_70_M⟩ := hw
                dsimp only at hv xu_70V wu_70 xu_70_M
                have hP : va_P G vwCl (WMs cy mo h v70 nm70 f3 g3) H := hP1
                have hD : va_D A (WMs cy mo h v70 nm70 f3 g3) := hD1.weaken (fun _ _ _ h => hFc _ h)
                replace hR : RI v70 f3 := RI.fv hR xu_70V (by decide)
                replace hL : WL v70 f3 := WL.fv hL xu_70V (by decide) (by decide)
                replace hV_0 := FV.tr hV_0 xu_70V (by decide)
                clear hFc hk1 hz1 hP1 hD1
                replace wu_70 : ((v70 7).toInt ≤ (v 3).toInt ∧ ((v70 4).toInt ≠ 0 ∨ (v 4).toInt = 0)) := by
                  have h9 : ((v70 7).toInt ≤ (v3 3).toInt ∧ ((v70 4).toInt ≠ 0 ∨ (v3 4).toInt = 0)) := wu_70
                  rw [(show v3 3 = (v 3) from (hV_3 3 (by decide))), (show v3 4 = (v 4) from (hV_3 4 (by decide)))] at h9
                  exact h9
                replace xu_70_M : 0 ≤ mz (v 3).toInt (v70 7).toInt (v70 8).toInt ∧ mz (v 3).toInt (v70 7).toInt (v70 8).toInt ≤ mz (v 3).toInt (v 7).toInt (v 8).toInt := by
                  have h9 : 0 ≤ mz (v3 3).toInt (v70 7).toInt (v70 8).toInt ∧ mz (v3 3).toInt (v70 7).toInt (v70 8).toInt ≤ mz (v3 3).toInt (v3 7).toInt (v3 8).toInt := xu_70_M
                  rw [(show v3 3 = (v 3) from (hV_3 3 (by decide))), (show v3 7 = (v 7) from (hV_3 7 (by decide))), (show v3 8 = (v 8) from (hV_3 8 (by decide)))] at h9
                  exact h9
                refine lv_iconst (v := 0) hx hb dX12_behindUnit_190 (by decide) ?_
                refine W.widen (k := 0) (n := 0) (Nat.le_of_ble_eq_true rfl) (Nat.le_of_ble_eq_true rfl) ?_
                exact W.zret (v := 0) hx hb hr rfl (fun t ht9 hW => ⟨⟨0, (v70, nm70, f3, g3), rfl, ⟨hv, hf, hR, hL, hV_0, hF_0, ⟨(by omega), (show (v70 7).toInt ≤ (v 3).toInt from by first | omega | (subst_vars; first | rfl | omega))⟩, (show 0 ≤ mz (v 3).toInt (v70 7).toInt (v70 8).toInt ∧ mz (v 3).toInt (v70 7).toInt (v70 8).toInt ≤ mz (v 3).toInt (v 7).toInt (v 8).toInt ∧ ((v70 4).toInt ≠ 0 ∨ mz (v 3).toInt (v70 7).toInt (v70 8).toInt < mz (v 3).toInt (v 7).toInt (v 8).toInt ∨ (v70 33).toInt < (v 33).toInt) from by rw [(show v70 33 = v_58 from (xu_70V 33 (by decide)))]; omega), (show (v70 4).toInt = 0 → EI (0 : Int32).toInt (v 30).toInt Fz (v70 31).toInt (v70 33).toInt (v70 32).toInt (f 13 (Int32.toNatClampNeg (v 30))).toInt (f3 26) (f3 27) (f3 24) (f3 25) from by rw [(show v70 31 = (v3 31) from (xu_70V 31 (by decide))), (show v70 33 = v_58 from (xu_70V 33 (by decide))), (show v70 32 = v_67 from (xu_70V 32 (by decide))), (show f3 26 = (f 26) from (hF_3 26 (by decide))), (show f3 27 = (f 27) from (hF_3 27 (by decide)))]; exact fun h9 => EI.cast (EI.close (w' := v_67.toInt) qf3_0 (by omega) (by omega) (by omega)).2 (by omega) (by omega) (by omega) (by omega) rfl), (show OUT Fz (600 * (v 30).toInt + 600) (f 24) (f 25) (f3 24) (f3 25) from by exact qf3_1)⟩, ⟨by rw [ht9]; exact hP, hD⟩⟩, hS.F ht9⟩) hS.2.2 dX12_behindUnit_191
            · have q_71 : (0 : Int32).toInt < r_u_1.toInt := by have := (not_congr (ow_le _ _)).mp c_56; omega
              refine lv_aload_n hx hb dX12_behindUnit_107 rfl (lv_at hl 1 rfl) ?_
              refine lv_iload_n hx hb dX12_behindUnit_108 rfl (lv_at hl 0 rfl) ?_
              refine lv_iload_n hx hb dX12_behindUnit_109 rfl (lv_at hl 0 rfl) ?_
              refine lv_iconst (v := 2) hx hb dX12_behindUnit_110 (by decide) ?_
              refine lv_icmp_ne (tgt := 119) hx hb dX12_behindUnit_111 (by decide) (fun c_72 => ?_) (fun c_72 => ?_)
              · have q_73 : ¬ r_u_1.toInt = (2 : Int32).toInt := by have := (not_congr (ow_eq _ _)).mp c_72; omega
                refine lv_iload_n hx hb dX12_behindUnit_119 rfl (lv_at hl 0 rfl) ?_
                refine lv_iconst (v := 1) hx hb dX12_behindUnit_120 (by decide) ?_
                refine lv_icmp_ne (tgt := 129) hx hb dX12_behindUnit_121 (by decide) (fun c_74 => ?_) (fun c_74 => ?_)
                · have q_75 : ¬ r_u_1.toInt = (1 : Int32).toInt := by have := (not_congr (ow_eq _ _)).mp c_74; omega
                  refine lv_aload_n hx hb dX12_behindUnit_129 rfl (lv_at hl 1 rfl) ?_
                  refine lv_aload_n hx hb dX12_behindUnit_130 rfl (lv_at hl 1 rfl) ?_
                  refine mg_6 hx hb ht hown hK hP dX12_behindUnit_131 ?_
                  refine ow_top (v 6) (hV_3 6 (by decide)) ?_
                  have q_76 : 0 ≤ (v 6).toInt ∧ (v 6).toInt ≤ 1700 := by have h9 : v3 6 = (v 6) := (hV_3 6 (by decide)); rw [← h9]; exact hv 6
                  have hFc := fr_new hS hA
                  refine va_calli (va_runV (As := [.int (v 6)]) (rest := [.int r_u_1, .ref mo]) ⟨hx, hb, hml, hown, ht⟩ (m_sign l G cy _ mo h T v3 nm3 f3 g3 (v 6)  hv hf hR hL (by omega)) (cwV 1 ht (gv k_207 k_208 k_209 k_61 k_206) rfl rfl rfl (by decide +kernel) ⟨Nat.le_of_ble_eq_true rfl, Nat.le_of_ble_eq_true rfl⟩) ⟨En.blind, va_recv hK hP (ci := 12) (q0 := 0) rfl rfl, fun U hU hW => ⟨rfl, En.of hU hW hP hK hD hN⟩⟩ rfl rfl hl.1 rfl (lv_room (Nat.le_of_ble_eq_true rfl)) dX12_behindUnit_134 ⟨Nat.le_of_ble_eq_true rfl, Nat.le_of_ble_eq_true rfl⟩) hS (fun q _ h => hFc q h) hFc (fun r_u_77 u_77 t9 H locs ht9 hvm hw hB hz1 hk1 hS => ?_)
                  have hP := fr_keep hP hk1
                  have wu_77 := hw
                  clear hFc hk1 hz1 hB hw
                  replace wu_77 : (0 ≤ r_u_77.toInt ∧ r_u_77.toInt ≤ 255) ∧ (r_u_77.toInt = sgn (v 3).toInt (f 1) (v 6).toInt ∧ (r_u_77.toInt = 0 ∨ (v 6).toInt < (v 3).toInt)) := by
                    have h9 : (0 ≤ r_u_77.toInt ∧ r_u_77.toInt ≤ 255) ∧ (r_u_77.toInt = sgn (v3 3).toInt (f3 1) (v 6).toInt ∧ (r_u_77.toInt = 0 ∨ (v 6).toInt < (v3 3).toInt)) := wu_77
                    rw [(show v3 3 = (v 3) from (hV_3 3 (by decide))), (show f3 1 = (f 1) from (hF_3 1 (by decide)))] at h9
                    exact h9
                  have hFc := fr_free hD hS hA
                  refine va_callv (va_runV (As := [.int r_u_1, .int r_u_77]) (rest := []) ⟨hx, hb, hml, hown, ht⟩ (m_pushE l G cy _ mo h T v3 nm3 f3 g3 r_u_1 r_u_77 ((v3 33)) hv hf hR hL rfl (show 0 ≤ ((v3 33)).toInt ∧ ((v3 33)).toInt ≤ 119 from by omega)) (cwV 2 ht (gv k_252 k_253 k_254 k_61 k_251) rfl rfl rfl (by decide +kernel) ⟨Nat.le_of_ble_eq_true rfl, Nat.le_of_ble_eq_true rfl⟩) ⟨En.blind, va_recv hK hP (ci := 12) (q0 := 0) rfl rfl, fun U hU hW => ⟨rfl, En.of hU hW hP hK hD hN⟩⟩ rfl rfl hl.1 rfl (lv_room (Nat.le_of_ble_eq_true rfl)) dX12_behindUnit_137 ⟨Nat.le_of_ble_eq_true rfl, Nat.le_of_ble_eq_true rfl⟩) hS (fun q _ h => hFc q h) hFc (fun u_78 t9 H locs ht9 hvm hw hB hz1 hk1 hS => ?_)
                  obtain ⟨hP1, hD1⟩ := hB
                  rw [ht9] at hP1
                  have wu_78 := hw
                  have q_80 : ((v3 33) + 1).toInt = (v3 33).toInt + 1 := ow_add rfl (by omega) (by omega)
                  replace hv := MIv.up 33 hv (show 0 ≤ ((v3 33) + 1).toInt ∧ ((v3 33) + 1).toInt ≤ 120 from by omega)
                  replace hR : RI (va_up v3 33 ((v3 33) + 1)) f3 := RI.upv 33 hR (by decide)
                  replace hL : WL (va_up v3 33 ((v3 33) + 1)) f3 := WL.upv 33 hL (by decide)
                  replace hV_0 := FV.up hV_0 33 ((v3 33) + 1) (by decide)
                  replace hf := MIf.up 26 (i := (Int32.toNatClampNeg (v3 33))) hf (ow_any r_u_1)
                  replace hF_0 := FF.up hF_0 26 (upd (f3 26) (Int32.toNatClampNeg (v3 33)) r_u_1) (by decide)
                  replace hR : RI (va_up v3 33 ((v3 33) + 1)) (va_up f3 26 (upd (f3 26) (Int32.toNatClampNeg (v3 33)) r_u_1)) := RI.up 26 hR (by decide)
                  replace hL : WL (va_up v3 33 ((v3 33) + 1)) (va_up f3 26 (upd (f3 26) (Int32.toNatClampNeg (v3 33)) r_u_1)) := WL.upf 26 hL (by decide)
                  replace hf := MIf.up 27 (i := (Int32.toNatClampNeg (v3 33))) hf (ow_any r_u_77)
                  replace hF_0 := FF.up hF_0 27 (upd ((va_up f3 26 (upd (f3 26) (Int32.toNatClampNeg (v3 33)) r_u_1)) 27) (Int32.toNatClampNeg (v3 33)) r_u_77) (by decide)
                  replace hR : RI (va_up v3 33 ((v3 33) + 1)) (va_up (va_up f3 26 (upd (f3 26) (Int32.toNatClampNeg (v3 33)) r_u_1)) 27 (upd ((va_up f3 26 (upd (f3 26) (Int32.toNatClampNeg (v3 33)) r_u_1)) 27) (Int32.toNatClampNeg (v3 33)) r_u_77)) := RI.up 27 hR (by decide)
                  replace hL : WL (va_up v3 33 ((v3 33) + 1)) (va_up (va_up f3 26 (upd (f3 26) (Int32.toNatClampNeg (v3 33)) r_u_1)) 27 (upd ((va_up f3 26 (upd (f3 26) (Int32.toNatClampNeg (v3 33)) r_u_1)) 27) (Int32.toNatClampNeg (v3 33)) r_u_77)) := WL.upf 27 hL (by decide)
                  have hP : va_P G vwCl (WMs cy mo h (va_up v3 33 ((v3 33) + 1)) nm3 (va_up (va_up f3 26 (upd (f3 26) (Int32.toNatClampNeg (v3 33)) r_u_1)) 27 (upd ((va_up f3 26 (upd (f3 26) (Int32.toNatClampNeg (v3 33)) r_u_1)) 27) (Int32.toNatClampNeg (v3 33)) r_u_77)) g3) H := hP1
                  have hD : va_D A (WMs cy mo h (va_up v3 33 ((v3 33) + 1)) nm3 (va_up (va_up f3 26 (upd (f3 26) (Int32.toNatClampNeg (v3 33)) r_u_1)) 27 (upd ((va_up f3 26 (upd (f3 26) (Int32.toNatClampNeg (v3 33)) r_u_1)) 27) (Int32.toNatClampNeg (v3 33)) r_u_77)) g3) := hD1.weaken (fun _ _ _ h => hFc _ h)
                  clear hFc hk1 hz1 hP1 hD1 hw
                  refine lv_aload_n hx hb dX12_behindUnit_140 rfl (lv_at hl 1 rfl) ?_
                  have hFc := fr_free hD hS hA
                  refine va_callv (va_runV (As := []) (rest := []) ⟨hx, hb, hml, hown, ht⟩ (m_goOn l G cy _ mo h T (va_up v3 33 ((v3 33) + 1)) nm3 (va_up (va_up f3 26 (upd (f3 26) (Int32.toNatClampNeg (v3 33)) r_u_1)) 27 (upd ((va_up f3 26 (upd (f3 26) (Int32.toNatClampNeg (v3 33)) r_u_1)) 27) (Int32.toNatClampNeg (v3 33)) r_u_77)) g3   hv hf hR hL (show (v3 7).toInt ≤ (v3 3).toInt from by rw [(show v3 7 = (v 7) from (hV_3 7 (by decide))), (show v3 3 = (v 3) from (hV_3 3 (by decide)))]; omega)) (cwV 0 ht (gv k_232 k_233 k_234 k_61 k_231) rfl rfl rfl (by decide +kernel) ⟨Nat.le_of_ble_eq_true rfl, Nat.le_of_ble_eq_true rfl⟩) ⟨En.blind, va_recv hK hP (ci := 12) (q0 := 0) rfl rfl, fun U hU hW => ⟨rfl, En.of hU hW hP hK hD hN⟩⟩ rfl rfl hl.1 rfl (lv_room (Nat.le_of_ble_eq_true rfl)) dX12_behindUnit_141 ⟨Nat.le_of_ble_eq_true rfl, Nat.le_of_ble_eq_true rfl⟩) hS (fun q _ h => hFc q h) hFc (fun u_81 t9 H locs ht9 hvm hw hB hz1 hk1 hS => ?_)
                  obtain ⟨v81, nm81⟩ := u_81
                  obtain ⟨hP1, hD1⟩ := hB
                  rw [ht9] at hP1
                  obtain ⟨hv, xu_81V, wu_81, xu_81_M⟩ := hw
                  dsimp only at hv xu_81V wu_81 xu_81_M
                  have hP : va_P G vwCl (WMs cy mo h v81 nm81 (va_up (va_up f3 26 (upd (f3 26) (Int32.toNatClampNeg (v3 33)) r_u_1)) 27 (upd ((va_up f3 26 (upd (f3 26) (Int32.toNatClampNeg (v3 33)) r_u_1)) 27) (Int32.toNatClampNeg (v3 33)) r_u_77)) g3) H := hP1
                  have hD : va_D A (WMs cy mo h v81 nm81 (va_up (va_up f3 26 (upd (f3 26) (Int32.toNatClampNeg (v3 33)) r_u_1)) 27 (upd ((va_up f3 26 (upd (f3 26) (Int32.toNatClampNeg (v3 33)) r_u_1)) 27) (Int32.toNatClampNeg (v3 33)) r_u_77)) g3) := hD1.weaken (fun _ _ _ h => hFc _ h)
                  replace hR : RI v81 (va_up (va_up f3 26 (upd (f3 26) (Int32.toNatClampNeg (v3 33)) r_u_1)) 27 (upd ((va_up f3 26 (upd (f3 26) (Int32.toNatClampNeg (v3 33)) r_u_1)) 27) (Int32.toNatClampNeg (v3 33)) r_u_77)) := RI.fv hR xu_81V (by decide)
                  replace hL : WL v81 (va_up (va_up f3 26 (upd (f3 26) (Int32.toNatClampNeg (v3 33)) r_u_1)) 27 (upd ((va_up f3 26 (upd (f3 26) (Int32.toNatClampNeg (v3 33)) r_u_1)) 27) (Int32.toNatClampNeg (v3 33)) r_u_77)) := WL.fv hL xu_81V (by decide) (by decide)
                  replace hV_0 := FV.tr hV_0 xu_81V (by decide)
                  clear hFc hk1 hz1 hP1 hD1
                  replace wu_81 : ((v81 7).toInt ≤ (v 3).toInt ∧ (((v81 8).toInt = 0 ∧ (v81 7).toInt = (v 3).toInt) ∨ ((v81 8).toInt ≠ 0 ∧ (v 7).toInt < (v81 7).toInt))) := by
                    have h9 : ((v81 7).toInt ≤ (v3 3).toInt ∧ (((v81 8).toInt = 0 ∧ (v81 7).toInt = (v3 3).toInt) ∨ ((v81 8).toInt ≠ 0 ∧ (v3 7).toInt < (v81 7).toInt))) := wu_81
                    rw [(show v3 3 = (v 3) from (hV_3 3 (by decide))), (show v3 7 = (v 7) from (hV_3 7 (by decide)))] at h9
                    exact h9
                  replace xu_81_M : 0 ≤ mz (v 3).toInt (v81 7).toInt (v81 8).toInt ∧ mz (v 3).toInt (v81 7).toInt (v81 8).toInt ≤ mz (v 3).toInt (v 7).toInt (v 8).toInt ∧ ((v 8).toInt = 0 ∨ mz (v 3).toInt (v81 7).toInt (v81 8).toInt < mz (v 3).toInt (v 7).toInt (v 8).toInt) := by
                    have h9 : 0 ≤ mz (v3 3).toInt (v81 7).toInt (v81 8).toInt ∧ mz (v3 3).toInt (v81 7).toInt (v81 8).toInt ≤ mz (v3 3).toInt (v3 7).toInt (v3 8).toInt ∧ ((v3 8).toInt = 0 ∨ mz (v3 3).toInt (v81 7).toInt (v81 8).toInt < mz (v3 3).toInt (v3 7).toInt (v3 8).toInt) := xu_81_M
                    rw [(show v3 3 = (v 3) from (hV_3 3 (by decide))), (show v3 7 = (v 7) from (hV_3 7 (by decide))), (show v3 8 = (v 8) from (hV_3 8 (by decide)))] at h9
                    exact h9
                  refine lv_iconst (v := 1) hx hb dX12_behindUnit_144 (by decide) ?_
                  refine W.widen (k := 0) (n := 0) (Nat.le_of_ble_eq_true rfl) (Nat.le_of_ble_eq_true rfl) ?_
                  exact W.zret (v := 1) hx hb hr rfl (fun t ht9 hW => ⟨⟨1, (v81, nm81, (va_up (va_up f3 26 (upd (f3 26) (Int32.toNatClampNeg (v3 33)) r_u_1)) 27 (upd ((va_up f3 26 (upd (f3 26) (Int32.toNatClampNeg (v3 33)) r_u_1)) 27) (Int32.toNatClampNeg (v3 33)) r_u_77)), g3), rfl, ⟨hv, hf, hR, hL, hV_0, hF_0, ⟨(by omega), (show (v81 7).toInt ≤ (v 3).toInt from by first | omega | (subst_vars; first | rfl | omega))⟩, (show 0 ≤ mz (v 3).toInt (v81 7).toInt (v81 8).toInt ∧ mz (v 3).toInt (v81 7).toInt (v81 8).toInt ≤ mz (v 3).toInt (v 7).toInt (v 8).toInt ∧ ((v81 4).toInt ≠ 0 ∨ mz (v 3).toInt (v81 7).toInt (v81 8).toInt < mz (v 3).toInt (v 7).toInt (v 8).toInt ∨ (v81 33).toInt < (v 33).toInt) from by rw [(show v81 4 = (v 4) from ((xu_81V 4 (by decide)).trans (hV_3 4 (by decide)))), (show v81 33 = ((v3 33) + 1) from (xu_81V 33 (by decide)))]; omega), (show (v81 4).toInt = 0 → EI (1 : Int32).toInt (v 30).toInt Fz (v81 31).toInt (v81 33).toInt (v81 32).toInt (f 13 (Int32.toNatClampNeg (v 30))).toInt ((va_up (va_up f3 26 (upd (f3 26) (Int32.toNatClampNeg (v3 33)) r_u_1)) 27 (upd ((va_up f3 26 (upd (f3 26) (Int32.toNatClampNeg (v3 33)) r_u_1)) 27) (Int32.toNatClampNeg (v3 33)) r_u_77)) 26) ((va_up (va_up f3 26 (upd (f3 26) (Int32.toNatClampNeg (v3 33)) r_u_1)) 27 (upd ((va_up f3 26 (upd (f3 26) (Int32.toNatClampNeg (v3 33)) r_u_1)) 27) (Int32.toNatClampNeg (v3 33)) r_u_77)) 27) (f3 24) (f3 25) from by rw [(show v81 4 = (v 4) from ((xu_81V 4 (by decide)).trans (hV_3 4 (by decide)))), (show v81 31 = (v3 31) from (xu_81V 31 (by decide))), (show v81 33 = ((v3 33) + 1) from (xu_81V 33 (by decide))), (show v81 32 = (v3 32) from (xu_81V 32 (by decide))), (show (va_up (va_up f3 26 (upd (f3 26) (Int32.toNatClampNeg (v3 33)) r_u_1)) 27 (upd ((va_up f3 26 (upd (f3 26) (Int32.toNatClampNeg (v3 33)) r_u_1)) 27) (Int32.toNatClampNeg (v3 33)) r_u_77)) 26 = (upd (f 26) (Int32.toNatClampNeg (v3 33)) r_u_1) from (congrArg (fun z : Nat → Int32 => upd z (Int32.toNatClampNeg (v3 33)) r_u_1) (hF_3 26 (by decide)))), (show (va_up (va_up f3 26 (upd (f3 26) (Int32.toNatClampNeg (v3 33)) r_u_1)) 27 (upd ((va_up f3 26 (upd (f3 26) (Int32.toNatClampNeg (v3 33)) r_u_1)) 27) (Int32.toNatClampNeg (v3 33)) r_u_77)) 27 = (upd (f 27) (Int32.toNatClampNeg (v3 33)) r_u_77) from (congrArg (fun z : Nat → Int32 => upd z (Int32.toNatClampNeg (v3 33)) r_u_77) (hF_3 27 (by decide))))]; exact fun h9 => EI.cast (EI.push qf3_0 (by omega) (by omega) (by omega)) (by omega) (by omega) (by omega) (by omega) rfl), (show OUT Fz (600 * (v 30).toInt + 600) (f 24) (f 25) (f3 24) (f3 25) from by exact qf3_1)⟩, ⟨by rw [ht9]; exact hP, hD⟩⟩, hS.F ht9⟩) hS.2.2 dX12_behindUnit_145
                · have q_82 : r_u_1.toInt = (1 : Int32).toInt := (ow_eq _ _).mp c_74
                  refine lv_bipush (v := 124) hx hb dX12_behindUnit_124 (by decide) ?_
                  refine lv_goto (tgt := 137) hx hb dX12_behindUnit_126 (by decide) ?_
                  have hFc := fr_free hD hS hA
                  refine va_callv (va_runV (As := [.int r_u_1, .int 124]) (rest := []) ⟨hx, hb, hml, hown, ht⟩ (m_pushE l G cy _ mo h T v3 nm3 f3 g3 r_u_1 (124) ((v3 33)) hv hf hR hL rfl (show 0 ≤ ((v3 33)).toInt ∧ ((v3 33)).toInt ≤ 119 from by omega)) (cwV 2 ht (gv k_252 k_253 k_254 k_61 k_251) rfl rfl rfl (by decide +kernel) ⟨Nat.le_of_ble_eq_true rfl, Nat.le_of_ble_eq_true rfl⟩) ⟨En.blind, va_recv hK hP (ci := 12) (q0 := 0) rfl rfl, fun U hU hW => ⟨rfl, En.of hU hW hP hK hD hN⟩⟩ rfl rfl hl.1 rfl (lv_room (Nat.le_of_ble_eq_true rfl)) dX12_behindUnit_137 ⟨Nat.le_of_ble_eq_true rfl, Nat.le_of_ble_eq_true rfl⟩) hS (fun q _ h => hFc q h) hFc (fun u_83 t9 H locs ht9 hvm hw hB hz1 hk1 hS => ?_)
                  obtain ⟨hP1, hD1⟩ := hB
                  rw [ht9] at hP1
                  have wu_83 := hw
                  have q_85 : ((v3 33) + 1).toInt = (v3 33).toInt + 1 := ow_add rfl (by omega) (by omega)
                  replace hv := MIv.up 33 hv (show 0 ≤ ((v3 33) + 1).toInt ∧ ((v3 33) + 1).toInt ≤ 120 from by omega)
                  replace hR : RI (va_up v3 33 ((v3 33) + 1)) f3 := RI.upv 33 hR (by decide)
                  replace hL : WL (va_up v3 33 ((v3 33) + 1)) f3 := WL.upv 33 hL (by decide)
                  replace hV_0 := FV.up hV_0 33 ((v3 33) + 1) (by decide)
                  replace hf := MIf.up 26 (i := (Int32.toNatClampNeg (v3 33))) hf (ow_any r_u_1)
                  replace hF_0 := FF.up hF_0 26 (upd (f3 26) (Int32.toNatClampNeg (v3 33)) r_u_1) (by decide)
                  replace hR : RI (va_up v3 33 ((v3 33) + 1)) (va_up f3 26 (upd (f3 26) (Int32.toNatClampNeg (v3 33)) r_u_1)) := RI.up 26 hR (by decide)
                  replace hL : WL (va_up v3 33 ((v3 33) + 1)) (va_up f3 26 (upd (f3 26) (Int32.toNatClampNeg (v3 33)) r_u_1)) := WL.upf 26 hL (by decide)
                  replace hf := MIf.up 27 (i := (Int32.toNatClampNeg (v3 33))) hf (ow_any (124 : Int32))
                  replace hF_0 := FF.up hF_0 27 (upd ((va_up f3 26 (upd (f3 26) (Int32.toNatClampNeg (v3 33)) r_u_1)) 27) (Int32.toNatClampNeg (v3 33)) (124 : Int32)) (by decide)
                  replace hR : RI (va_up v3 33 ((v3 33) + 1)) (va_up (va_up f3 26 (upd (f3 26) (Int32.toNatClampNeg (v3 33)) r_u_1)) 27 (upd ((va_up f3 26 (upd (f3 26) (Int32.toNatClampNeg (v3 33)) r_u_1)) 27) (Int32.toNatClampNeg (v3 33)) (124 : Int32))) := RI.up 27 hR (by decide)
                  replace hL : WL (va_up v3 33 ((v3 33) + 1)) (va_up (va_up f3 26 (upd (f3 26) (Int32.toNatClampNeg (v3 33)) r_u_1)) 27 (upd ((va_up f3 26 (upd (f3 26) (Int32.toNatClampNeg (v3 33)) r_u_1)) 27) (Int32.toNatClampNeg (v3 33)) (124 : Int32))) := WL.upf 27 hL (by decide)
                  have hP : va_P G vwCl (WMs cy mo h (va_up v3 33 ((v3 33) + 1)) nm3 (va_up (va_up f3 26 (upd (f3 26) (Int32.toNatClampNeg (v3 33)) r_u_1)) 27 (upd ((va_up f3 26 (upd (f3 26) (Int32.toNatClampNeg (v3 33)) r_u_1)) 27) (Int32.toNatClampNeg (v3 33)) (124 : Int32))) g3) H := hP1
                  have hD : va_D A (WMs cy mo h (va_up v3 33 ((v3 33) + 1)) nm3 (va_up (va_up f3 26 (upd (f3 26) (Int32.toNatClampNeg (v3 33)) r_u_1)) 27 (upd ((va_up f3 26 (upd (f3 26) (Int32.toNatClampNeg (v3 33)) r_u_1)) 27) (Int32.toNatClampNeg (v3 33)) (124 : Int32))) g3) := hD1.weaken (fun _ _ _ h => hFc _ h)
                  clear hFc hk1 hz1 hP1 hD1 hw
                  refine lv_aload_n hx hb dX12_behindUnit_140 rfl (lv_at hl 1 rfl) ?_
                  have hFc := fr_free hD hS hA
                  refine va_callv (va_runV (As := []) (rest := []) ⟨hx, hb, hml, hown, ht⟩ (m_goOn l G cy _ mo h T (va_up v3 33 ((v3 33) + 1)) nm3 (va_up (va_up f3 26 (upd (f3 26) (Int32.toNatClampNeg (v3 33)) r_u_1)) 27 (upd ((va_up f3 26 (upd (f3 26) (Int32.toNatClampNeg (v3 33)) r_u_1)) 27) (Int32.toNatClampNeg (v3 33)) (124 : Int32))) g3   hv hf hR hL (show (v3 7).toInt ≤ (v3 3).toInt from by rw [(show v3 7 = (v 7) from (hV_3 7 (by decide))), (show v3 3 = (v 3) from (hV_3 3 (by decide)))]; omega)) (cwV 0 ht (gv k_232 k_233 k_234 k_61 k_231) rfl rfl rfl (by decide +kernel) ⟨Nat.le_of_ble_eq_true rfl, Nat.le_of_ble_eq_true rfl⟩) ⟨En.blind, va_recv hK hP (ci := 12) (q0 := 0) rfl rfl, fun U hU hW => ⟨rfl, En.of hU hW hP hK hD hN⟩⟩ rfl rfl hl.1 rfl (lv_room (Nat.le_of_ble_eq_true rfl)) dX12_behindUnit_141 ⟨Nat.le_of_ble_eq_true rfl, Nat.le_of_ble_eq_true rfl⟩) hS (fun q _ h => hFc q h) hFc (fun u_86 t9 H locs ht9 hvm hw hB hz1 hk1 hS => ?_)
                  obtain ⟨v86, nm86⟩ := u_86
                  obtain ⟨hP1, hD1⟩ := hB
                  rw [ht9] at hP1
                  obtain ⟨hv, xu_86V, wu_86, xu_86_M⟩ := hw
                  dsimp only at hv xu_86V wu_86 xu_86_M
                  have hP : va_P G vwCl (WMs cy mo h v86 nm86 (va_up (va_up f3 26 (upd (f3 26) (Int32.toNatClampNeg (v3 33)) r_u_1)) 27 (upd ((va_up f3 26 (upd (f3 26) (Int32.toNatClampNeg (v3 33)) r_u_1)) 27) (Int32.toNatClampNeg (v3 33)) (124 : Int32))) g3) H := hP1
                  have hD : va_D A (WMs cy mo h v86 nm86 (va_up (va_up f3 26 (upd (f3 26) (Int32.toNatClampNeg (v3 33)) r_u_1)) 27 (upd ((va_up f3 26 (upd (f3 26) (Int32.toNatClampNeg (v3 33)) r_u_1)) 27) (Int32.toNatClampNeg (v3 33)) (124 : Int32))) g3) := hD1.weaken (fun _ _ _ h => hFc _ h)
                  replace hR : RI v86 (va_up (va_up f3 26 (upd (f3 26) (Int32.toNatClampNeg (v3 33)) r_u_1)) 27 (upd ((va_up f3 26 (upd (f3 26) (Int32.toNatClampNeg (v3 33)) r_u_1)) 27) (Int32.toNatClampNeg (v3 33)) (124 : Int32))) := RI.fv hR xu_86V (by decide)
                  replace hL : WL v86 (va_up (va_up f3 26 (upd (f3 26) (Int32.toNatClampNeg (v3 33)) r_u_1)) 27 (upd ((va_up f3 26 (upd (f3 26) (Int32.toNatClampNeg (v3 33)) r_u_1)) 27) (Int32.toNatClampNeg (v3 33)) (124 : Int32))) := WL.fv hL xu_86V (by decide) (by decide)
                  replace hV_0 := FV.tr hV_0 xu_86V (by decide)
                  clear hFc hk1 hz1 hP1 hD1
                  replace wu_86 : ((v86 7).toInt ≤ (v 3).toInt ∧ (((v86 8).toInt = 0 ∧ (v86 7).toInt = (v 3).toInt) ∨ ((v86 8).toInt ≠ 0 ∧ (v 7).toInt < (v86 7).toInt))) := by
                    have h9 : ((v86 7).toInt ≤ (v3 3).toInt ∧ (((v86 8).toInt = 0 ∧ (v86 7).toInt = (v3 3).toInt) ∨ ((v86 8).toInt ≠ 0 ∧ (v3 7).toInt < (v86 7).toInt))) := wu_86
                    rw [(show v3 3 = (v 3) from (hV_3 3 (by decide))), (show v3 7 = (v 7) from (hV_3 7 (by decide)))] at h9
                    exact h9
                  replace xu_86_M : 0 ≤ mz (v 3).toInt (v86 7).toInt (v86 8).toInt ∧ mz (v 3).toInt (v86 7).toInt (v86 8).toInt ≤ mz (v 3).toInt (v 7).toInt (v 8).toInt ∧ ((v 8).toInt = 0 ∨ mz (v 3).toInt (v86 7).toInt (v86 8).toInt < mz (v 3).toInt (v 7).toInt (v 8).toInt) := by
                    have h9 : 0 ≤ mz (v3 3).toInt (v86 7).toInt (v86 8).toInt ∧ mz (v3 3).toInt (v86 7).toInt (v86 8).toInt ≤ mz (v3 3).toInt (v3 7).toInt (v3 8).toInt ∧ ((v3 8).toInt = 0 ∨ mz (v3 3).toInt (v86 7).toInt (v86 8).toInt < mz (v3 3).toInt (v3 7).toInt (v3 8).toInt) := xu_86_M
                    rw [(show v3 3 = (v 3) from (hV_3 3 (by decide))), (show v3 7 = (v 7) from (hV_3 7 (by decide))), (show v3 8 = (v 8) from (hV_3 8 (by decide)))] at h9
                    exact h9
                  refine lv_iconst (v := 1) hx hb dX12_behindUnit_144 (by decide) ?_
                  refine W.widen (k := 0) (n := 0) (Nat.le_of_ble_eq_true rfl) (Nat.le_of_ble_eq_true rfl) ?_
                  exact W.zret (v := 1) hx hb hr rfl (fun t ht9 hW => ⟨⟨1, (v86, nm86, (va_up (va_up f3 26 (upd (f3 26) (Int32.toNatClampNeg (v3 33)) r_u_1)) 27 (upd ((va_up f3 26 (upd (f3 26) (Int32.toNatClampNeg (v3 33)) r_u_1)) 27) (Int32.toNatClampNeg (v3 33)) (124 : Int32))), g3), rfl, ⟨hv, hf, hR, hL, hV_0, hF_0, ⟨(by omega), (show (v86 7).toInt ≤ (v 3).toInt from by first | omega | (subst_vars; first | rfl | omega))⟩, (show 0 ≤ mz (v 3).toInt (v86 7).toInt (v86 8).toInt ∧ mz (v 3).toInt (v86 7).toInt (v86 8).toInt ≤ mz (v 3).toInt (v 7).toInt (v 8).toInt ∧ ((v86 4).toInt ≠ 0 ∨ mz (v 3).toInt (v86 7).toInt (v86 8).toInt < mz (v 3).toInt (v 7).toInt (v 8).toInt ∨ (v86 33).toInt < (v 33).toInt) from by rw [(show v86 4 = (v 4) from ((xu_86V 4 (by decide)).trans (hV_3 4 (by decide)))), (show v86 33 = ((v3 33) + 1) from (xu_86V 33 (by decide)))]; omega), (show (v86 4).toInt = 0 → EI (1 : Int32).toInt (v 30).toInt Fz (v86 31).toInt (v86 33).toInt (v86 32).toInt (f 13 (Int32.toNatClampNeg (v 30))).toInt ((va_up (va_up f3 26 (upd (f3 26) (Int32.toNatClampNeg (v3 33)) r_u_1)) 27 (upd ((va_up f3 26 (upd (f3 26) (Int32.toNatClampNeg (v3 33)) r_u_1)) 27) (Int32.toNatClampNeg (v3 33)) (124 : Int32))) 26) ((va_up (va_up f3 26 (upd (f3 26) (Int32.toNatClampNeg (v3 33)) r_u_1)) 27 (upd ((va_up f3 26 (upd (f3 26) (Int32.toNatClampNeg (v3 33)) r_u_1)) 27) (Int32.toNatClampNeg (v3 33)) (124 : Int32))) 27) (f3 24) (f3 25) from by rw [(show v86 4 = (v 4) from ((xu_86V 4 (by decide)).trans (hV_3 4 (by decide)))), (show v86 31 = (v3 31) from (xu_86V 31 (by decide))), (show v86 33 = ((v3 33) + 1) from (xu_86V 33 (by decide))), (show v86 32 = (v3 32) from (xu_86V 32 (by decide))), (show (va_up (va_up f3 26 (upd (f3 26) (Int32.toNatClampNeg (v3 33)) r_u_1)) 27 (upd ((va_up f3 26 (upd (f3 26) (Int32.toNatClampNeg (v3 33)) r_u_1)) 27) (Int32.toNatClampNeg (v3 33)) (124 : Int32))) 26 = (upd (f 26) (Int32.toNatClampNeg (v3 33)) r_u_1) from (congrArg (fun z : Nat → Int32 => upd z (Int32.toNatClampNeg (v3 33)) r_u_1) (hF_3 26 (by decide)))), (show (va_up (va_up f3 26 (upd (f3 26) (Int32.toNatClampNeg (v3 33)) r_u_1)) 27 (upd ((va_up f3 26 (upd (f3 26) (Int32.toNatClampNeg (v3 33)) r_u_1)) 27) (Int32.toNatClampNeg (v3 33)) (124 : Int32))) 27 = (upd (f 27) (Int32.toNatClampNeg (v3 33)) (124 : Int32)) from (congrArg (fun z : Nat → Int32 => upd z (Int32.toNatClampNeg (v3 33)) (124 : Int32)) (hF_3 27 (by decide))))]; exact fun h9 => EI.cast (EI.push qf3_0 (by omega) (by omega) (by omega)) (by omega) (by omega) (by omega) (by omega) rfl), (show OUT Fz (600 * (v 30).toInt + 600) (f 24) (f 25) (f3 24) (f3 25) from by exact qf3_1)⟩, ⟨by rw [ht9]; exact hP, hD⟩⟩, hS.F ht9⟩) hS.2.2 dX12_behindUnit_145
              · have q_87 : r_u_1.toInt = (2 : Int32).toInt := (ow_eq _ _).mp c_72
                refine lv_bipush (v := 38) hx hb dX12_behindUnit_114 (by decide) ?_
                refine lv_goto (tgt := 137) hx hb dX12_behindUnit_116 (by decide) ?_
                have hFc := fr_free hD hS hA
                refine va_callv (va_runV (As := [.int r_u_1, .int 38]) (rest := []) ⟨hx, hb, hml, hown, ht⟩ (m_pushE l G cy _ mo h T v3 nm3 f3 g3 r_u_1 (38) ((v3 33)) hv hf hR hL rfl (show 0 ≤ ((v3 33)).toInt ∧ ((v3 33)).toInt ≤ 119 from by omega)) (cwV 2 ht (gv k_252 k_253 k_254 k_61 k_251) rfl rfl rfl (by decide +kernel) ⟨Nat.le_of_ble_eq_true rfl, Nat.le_of_ble_eq_true rfl⟩) ⟨En.blind, va_recv hK hP (ci := 12) (q0 := 0) rfl rfl, fun U hU hW => ⟨rfl, En.of hU hW hP hK hD hN⟩⟩ rfl rfl hl.1 rfl (lv_room (Nat.le_of_ble_eq_true rfl)) dX12_behindUnit_137 ⟨Nat.le_of_ble_eq_true rfl, Nat.le_of_ble_eq_true rfl⟩) hS (fun q _ h => hFc q h) hFc (fun u_88 t9 H locs ht9 hvm hw hB hz1 hk1 hS => ?_)
                obtain ⟨hP1, hD1⟩ := hB
                rw [ht9] at hP1
                have wu_88 := hw
                have q_90 : ((v3 33) + 1).toInt = (v3 33).toInt + 1 := ow_add rfl (by omega) (by omega)
                replace hv := MIv.up 33 hv (show 0 ≤ ((v3 33) + 1).toInt ∧ ((v3 33) + 1).toInt ≤ 120 from by omega)
                replace hR : RI (va_up v3 33 ((v3 33) + 1)) f3 := RI.upv 33 hR (by decide)
                replace hL : WL (va_up v3 33 ((v3 33) + 1)) f3 := WL.upv 33 hL (by decide)
                replace hV_0 := FV.up hV_0 33 ((v3 33) + 1) (by decide)
                replace hf := MIf.up 26 (i := (Int32.toNatClampNeg (v3 33))) hf (ow_any r_u_1)
                replace hF_0 := FF.up hF_0 26 (upd (f3 26) (Int32.toNatClampNeg (v3 33)) r_u_1) (by decide)
                replace hR : RI (va_up v3 33 ((v3 33) + 1)) (va_up f3 26 (upd (f3 26) (Int32.toNatClampNeg (v3 33)) r_u_1)) := RI.up 26 hR (by decide)
                replace hL : WL (va_up v3 33 ((v3 33) + 1)) (va_up f3 26 (upd (f3 26) (Int32.toNatClampNeg (v3 33)) r_u_1)) := WL.upf 26 hL (by decide)
                replace hf := MIf.up 27 (i := (Int32.toNatClampNeg (v3 33))) hf (ow_any (38 : Int32))
                replace hF_0 := FF.up hF_0 27 (upd ((va_up f3 26 (upd (f3 26) (Int32.toNatClampNeg (v3 33)) r_u_1)) 27) (Int32.toNatClampNeg (v3 33)) (38 : Int32)) (by decide)
                replace hR : RI (va_up v3 33 ((v3 33) + 1)) (va_up (va_up f3 26 (upd (f3 26) (Int32.toNatClampNeg (v3 33)) r_u_1)) 27 (upd ((va_up f3 26 (upd (f3 26) (Int32.toNatClampNeg (v3 33)) r_u_1)) 27) (Int32.toNatClampNeg (v3 33)) (38 : Int32))) := RI.up 27 hR (by decide)
                replace hL : WL (va_up v3 33 ((v3 33) + 1)) (va_up (va_up f3 26 (upd (f3 26) (Int32.toNatClampNeg (v3 33)) r_u_1)) 27 (upd ((va_up f3 26 (upd (f3 26) (Int32.toNatClampNeg (v3 33)) r_u_1)) 27) (Int32.toNatClampNeg (v3 33)) (38 : Int32))) := WL.upf 27 hL (by decide)
                have hP : va_P G vwCl (WMs cy mo h (va_up v3 33 ((v3 33) + 1)) nm3 (va_up (va_up f3 26 (upd (f3 26) (Int32.toNatClampNeg (v3 33)) r_u_1)) 27 (upd ((va_up f3 26 (upd (f3 26) (Int32.toNatClampNeg (v3 33)) r_u_1)) 27) (Int32.toNatClampNeg (v3 33)) (38 : Int32))) g3) H := hP1
                have hD : va_D A (WMs cy mo h (va_up v3 33 ((v3 33) + 1)) nm3 (va_up (va_up f3 26 (upd (f3 26) (Int32.toNatClampNeg (v3 33)) r_u_1)) 27 (upd ((va_up f3 26 (upd (f3 26) (Int32.toNatClampNeg (v3 33)) r_u_1)) 27) (Int32.toNatClampNeg (v3 33)) (38 : Int32))) g3) := hD1.weaken (fun _ _ _ h => hFc _ h)
                clear hFc hk1 hz1 hP1 hD1 hw
                refine lv_aload_n hx hb dX12_behindUnit_140 rfl (lv_at hl 1 rfl) ?_
                have hFc := fr_free hD hS hA
                refine va_callv (va_runV (As := []) (rest := []) ⟨hx, hb, hml, hown, ht⟩ (m_goOn l G cy _ mo h T (va_up v3 33 ((v3 33) + 1)) nm3 (va_up (va_up f3 26 (upd (f3 26) (Int32.toNatClampNeg (v3 33)) r_u_1)) 27 (upd ((va_up f3 26 (upd (f3 26) (Int32.toNatClampNeg (v3 33)) r_u_1)) 27) (Int32.toNatClampNeg (v3 33)) (38 : Int32))) g3   hv hf hR hL (show (v3 7).toInt ≤ (v3 3).toInt from by rw [(show v3 7 = (v 7) from (hV_3 7 (by decide))), (show v3 3 = (v 3) from (hV_3 3 (by decide)))]; omega)) (cwV 0 ht (gv k_232 k_233 k_234 k_61 k_231) rfl rfl rfl (by decide +kernel) ⟨Nat.le_of_ble_eq_true rfl, Nat.le_of_ble_eq_true rfl⟩) ⟨En.blind, va_recv hK hP (ci := 12) (q0 := 0) rfl rfl, fun U hU hW => ⟨rfl, En.of hU hW hP hK hD hN⟩⟩ rfl rfl hl.1 rfl (lv_room (Nat.le_of_ble_eq_true rfl)) dX12_behindUnit_141 ⟨Nat.le_of_ble_eq_true rfl, Nat.le_of_ble_eq_true rfl⟩) hS (fun q _ h => hFc q h) hFc (fun u_91 t9 H locs ht9 hvm hw hB hz1 hk1 hS => ?_)
                obtain ⟨v91, nm91⟩ := u_91
                obtain ⟨hP1, hD1⟩ := hB
                rw [ht9] at hP1
                obtain ⟨hv, xu_91V, wu_91, xu_91_M⟩ := hw
                dsimp only at hv xu_91V wu_91 xu_91_M
                have hP : va_P G vwCl (WMs cy mo h v91 nm91 (va_up (va_up f3 26 (upd (f3 26) (Int32.toNatClampNeg (v3 33)) r_u_1)) 27 (upd ((va_up f3 26 (upd (f3 26) (Int32.toNatClampNeg (v3 33)) r_u_1)) 27) (Int32.toNatClampNeg (v3 33)) (38 : Int32))) g3) H := hP1
                have hD : va_D A (WMs cy mo h v91 nm91 (va_up (va_up f3 26 (upd (f3 26) (Int32.toNatClampNeg (v3 33)) r_u_1)) 27 (upd ((va_up f3 26 (upd (f3 26) (Int32.toNatClampNeg (v3 33)) r_u_1)) 27) (Int32.toNatClampNeg (v3 33)) (38 : Int32))) g3) := hD1.weaken (fun _ _ _ h => hFc _ h)
                replace hR : RI v91 (va_up (va_up f3 26 (upd (f3 26) (Int32.toNatClampNeg (v3 33)) r_u_1)) 27 (upd ((va_up f3 26 (upd (f3 26) (Int32.toNatClampNeg (v3 33)) r_u_1)) 27) (Int32.toNatClampNeg (v3 33)) (38 : Int32))) := RI.fv hR xu_91V (by decide)
                replace hL : WL v91 (va_up (va_up f3 26 (upd (f3 26) (Int32.toNatClampNeg (v3 33)) r_u_1)) 27 (upd ((va_up f3 26 (upd (f3 26) (Int32.toNatClampNeg (v3 33)) r_u_1)) 27) (Int32.toNatClampNeg (v3 33)) (38 : Int32))) := WL.fv hL xu_91V (by decide) (by decide)
                replace hV_0 := FV.tr hV_0 xu_91V (by decide)
                clear hFc hk1 hz1 hP1 hD1
                replace wu_91 : ((v91 7).toInt ≤ (v 3).toInt ∧ (((v91 8).toInt = 0 ∧ (v91 7).toInt = (v 3).toInt) ∨ ((v91 8).toInt ≠ 0 ∧ (v 7).toInt < (v91 7).toInt))) := by
                  have h9 : ((v91 7).toInt ≤ (v3 3).toInt ∧ (((v91 8).toInt = 0 ∧ (v91 7).toInt = (v3 3).toInt) ∨ ((v91 8).toInt ≠ 0 ∧ (v3 7).toInt < (v91 7).toInt))) := wu_91
                  rw [(show v3 3 = (v 3) from (hV_3 3 (by decide))), (show v3 7 = (v 7) from (hV_3 7 (by decide)))] at h9
                  exact h9
                replace xu_91_M : 0 ≤ mz (v 3).toInt (v91 7).toInt (v91 8).toInt ∧ mz (v 3).toInt (v91 7).toInt (v91 8).toInt ≤ mz (v 3).toInt (v 7).toInt (v 8).toInt ∧ ((v 8).toInt = 0 ∨ mz (v 3).toInt (v91 7).toInt (v91 8).toInt < mz (v 3).toInt (v 7).toInt (v 8).toInt) := by
                  have h9 : 0 ≤ mz (v3 3).toInt (v91 7).toInt (v91 8).toInt ∧ mz (v3 3).toInt (v91 7).toInt (v91 8).toInt ≤ mz (v3 3).toInt (v3 7).toInt (v3 8).toInt ∧ ((v3 8).toInt = 0 ∨ mz (v3 3).toInt (v91 7).toInt (v91 8).toInt < mz (v3 3).toInt (v3 7).toInt (v3 8).toInt) := xu_91_M
                  rw [(show v3 3 = (v 3) from (hV_3 3 (by decide))), (show v3 7 = (v 7) from (hV_3 7 (by decide))), (show v3 8 = (v 8) from (hV_3 8 (by decide)))] at h9
                  exact h9
                refine lv_iconst (v := 1) hx hb dX12_behindUnit_144 (by decide) ?_
                refine W.widen (k := 0) (n := 0) (Nat.le_of_ble_eq_true rfl) (Nat.le_of_ble_eq_true rfl) ?_
                exact W.zret (v := 1) hx hb hr rfl (fun t ht9 hW => ⟨⟨1, (v91, nm91, (va_up (va_up f3 26 (upd (f3 26) (Int32.toNatClampNeg (v3 33)) r_u_1)) 27 (upd ((va_up f3 26 (upd (f3 26) (Int32.toNatClampNeg (v3 33)) r_u_1)) 27) (Int32.toNatClampNeg (v3 33)) (38 : Int32))), g3), rfl, ⟨hv, hf, hR, hL, hV_0, hF_0, ⟨(by omega), (show (v91 7).toInt ≤ (v 3).toInt from by first | omega | (subst_vars; first | rfl | omega))⟩, (show 0 ≤ mz (v 3).toInt (v91 7).toInt (v91 8).toInt ∧ mz (v 3).toInt (v91 7).toInt (v91 8).toInt ≤ mz (v 3).toInt (v 7).toInt (v 8).toInt ∧ ((v91 4).toInt ≠ 0 ∨ mz (v 3).toInt (v91 7).toInt (v91 8).toInt < mz (v 3).toInt (v 7).toInt (v 8).toInt ∨ (v91 33).toInt < (v 33).toInt) from by rw [(show v91 4 = (v 4) from ((xu_91V 4 (by decide)).trans (hV_3 4 (by decide)))), (show v91 33 = ((v3 33) + 1) from (xu_91V 33 (by decide)))]; omega), (show (v91 4).toInt = 0 → EI (1 : Int32).toInt (v 30).toInt Fz (v91 31).toInt (v91 33).toInt (v91 32).toInt (f 13 (Int32.toNatClampNeg (v 30))).toInt ((va_up (va_up f3 26 (upd (f3 26) (Int32.toNatClampNeg (v3 33)) r_u_1)) 27 (upd ((va_up f3 26 (upd (f3 26) (Int32.toNatClampNeg (v3 33)) r_u_1)) 27) (Int32.toNatClampNeg (v3 33)) (38 : Int32))) 26) ((va_up (va_up f3 26 (upd (f3 26) (Int32.toNatClampNeg (v3 33)) r_u_1)) 27 (upd ((va_up f3 26 (upd (f3 26) (Int32.toNatClampNeg (v3 33)) r_u_1)) 27) (Int32.toNatClampNeg (v3 33)) (38 : Int32))) 27) (f3 24) (f3 25) from by rw [(show v91 4 = (v 4) from ((xu_91V 4 (by decide)).trans (hV_3 4 (by decide)))), (show v91 31 = (v3 31) from (xu_91V 31 (by decide))), (show v91 33 = ((v3 33) + 1) from (xu_91V 33 (by decide))), (show v91 32 = (v3 32) from (xu_91V 32 (by decide))), (show (va_up (va_up f3 26 (upd (f3 26) (Int32.toNatClampNeg (v3 33)) r_u_1)) 27 (upd ((va_up f3 26 (upd (f3 26) (Int32.toNatClampNeg (v3 33)) r_u_1)) 27) (Int32.toNatClampNeg (v3 33)) (38 : Int32))) 26 = (upd (f 26) (Int32.toNatClampNeg (v3 33)) r_u_1) from (congrArg (fun z : Nat → Int32 => upd z (Int32.toNatClampNeg (v3 33)) r_u_1) (hF_3 26 (by decide)))), (show (va_up (va_up f3 26 (upd (f3 26) (Int32.toNatClampNeg (v3 33)) r_u_1)) 27 (upd ((va_up f3 26 (upd (f3 26) (Int32.toNatClampNeg (v3 33)) r_u_1)) 27) (Int32.toNatClampNeg (v3 33)) (38 : Int32))) 27 = (upd (f 27) (Int32.toNatClampNeg (v3 33)) (38 : Int32)) from (congrArg (fun z : Nat → Int32 => upd z (Int32.toNatClampNeg (v3 33)) (38 : Int32)) (hF_3 27 (by decide))))]; exact fun h9 => EI.cast (EI.push qf3_0 (by omega) (by omega) (by omega)) (by omega) (by omega) (by omega) (by omega) rfl), (show OUT Fz (600 * (v 30).toInt + 600) (f 24) (f 25) (f3 24) (f3 25) from by exact qf3_1)⟩, ⟨by rw [ht9]; exact hP, hD⟩⟩, hS.F ht9⟩) hS.2.2 dX12_behindUnit_145
          · have q_92 : r_u_1.toInt ≤ v_52.toInt := by have := (not_congr (ow_lt _ _)).mp c_54; omega
            refine lv_aload_n hx hb dX12_behindUnit_53 rfl (lv_at hl 1 rfl) ?_
            refine lv_dup hx hb dX12_behindUnit_54 rfl ?_
            refine mg_33 hx hb ht hown hK hP dX12_behindUnit_55 ?_
            refine lv_iconst (v := 1) hx hb dX12_behindUnit_58 (by decide) ?_
            refine lv_isub hx hb dX12_behindUnit_59 ?_
            refine lv_topi (fun v_93 ev_93 => ?_)
            have q_94 : v_93.toInt = (v3 33).toInt - (1 : Int32).toInt := ow_sub ev_93 (by omega) (by omega)
            refine mp_33 hx hb ht hown hK hP hD hS dX12_behindUnit_60 (fun H locs hP hD hS => ?_)
            replace hv := MIv.up 33 hv (show 0 ≤ v_93.toInt ∧ v_93.toInt ≤ 120 from by omega)
            replace hL : WL (va_up v3 33 v_93) f3 := WL.upv 33 hL (by decide)
            replace hR : RI (va_up v3 33 v_93) f3 := RI.upv 33 hR (by decide)
            replace hV_0 := FV.up hV_0 33 v_93 (by decide)
            replace hW_3 := FV.up hW_3 33 v_93 (by decide)
            refine lv_aload_n hx hb dX12_behindUnit_63 rfl (lv_at hl 1 rfl) ?_
            refine mg_26 hx hb ht hown hK hP dX12_behindUnit_64 ?_
            refine lv_aload_n hx hb dX12_behindUnit_67 rfl (lv_at hl 1 rfl) ?_
            refine mg_33 hx hb ht hown hK hP dX12_behindUnit_68 ?_
            refine ow_top v_93 rfl ?_
            have q_95 : vp_in v_93 120 := vp_in_iff.mpr ⟨by omega, by omega⟩
            refine ml_26 hx hb hK hP q_95 dX12_behindUnit_71 ?_
            refine lv_topi (fun v_96 ev_96 => ?_)
            have q_97 : v_96.toInt = ((f 26) (Int32.toNatClampNeg v_93)).toInt := (congrArg Int32.toInt ev_96).trans (congrArg (fun z : Nat → Int32 => (z (Int32.toNatClampNeg v_93)).toInt) (show f3 26 = (f 26) from (hF_3 26 (by decide))))
            refine lv_iconst (v := 3) hx hb dX12_behindUnit_72 (by decide) ?_
            refine lv_icmp_ne (tgt := 86) hx hb dX12_behindUnit_73 (by decide) (fun c_98 => ?_) (fun c_98 => ?_)
            · have q_99 : ¬ v_96.toInt = (3 : Int32).toInt := by have := (not_congr (ow_eq _ _)).mp c_98; omega
              refine lv_aload_n hx hb dX12_behindUnit_86 rfl (lv_at hl 1 rfl) ?_
              refine lv_aload_n hx hb dX12_behindUnit_87 rfl (lv_at hl 1 rfl) ?_
              refine mg_27 hx hb ht hown hK hP dX12_behindUnit_88 ?_
              refine lv_aload_n hx hb dX12_behindUnit_91 rfl (lv_at hl 1 rfl) ?_
              refine mg_33 hx hb ht hown hK hP dX12_behindUnit_92 ?_
              refine ow_top v_93 rfl ?_
              have q_100 : vp_in v_93 120 := vp_in_iff.mpr ⟨by omega, by omega⟩
              refine ml_27 hx hb hK hP q_100 dX12_behindUnit_95 ?_
              refine lv_topi (fun v_101 ev_101 => ?_)
              have q_102 : v_101.toInt = ((f 27) (Int32.toNatClampNeg v_93)).toInt := (congrArg Int32.toInt ev_101).trans (congrArg (fun z : Nat → Int32 => (z (Int32.toNatClampNeg v_93)).toInt) (show f3 27 = (f 27) from (hF_3 27 (by decide))))
              refine lv_iconst (v := 0) hx hb dX12_behindUnit_96 (by decide) ?_
              have hFc := fr_free hD hS hA
              refine va_callv (va_runV (As := [.int v_101, .int 0]) (rest := []) ⟨hx, hb, hml, hown, ht⟩ (m_emit l G cy _ mo h T (va_up v3 33 v_93) nm3 f3 g3 v_101 (0) ((v3 31)) hv hf hR hL rfl (show 0 ≤ ((v3 31)).toInt ∧ ((v3 31)).toInt ≤ 1199 from by omega)) (cwV 2 ht (gv k_256 k_257 k_258 k_61 k_255) rfl rfl rfl (by decide +kernel) ⟨Nat.le_of_ble_eq_true rfl, Nat.le_of_ble_eq_true rfl⟩) ⟨En.blind, va_recv hK hP (ci := 12) (q0 := 0) rfl rfl, fun U hU hW => ⟨rfl, En.of hU hW hP hK hD hN⟩⟩ rfl rfl hl.1 rfl (lv_room (Nat.le_of_ble_eq_true rfl)) dX12_behindUnit_97 ⟨Nat.le_of_ble_eq_true rfl, Nat.le_of_ble_eq_true rfl⟩) hS (fun q _ h => hFc q h) hFc (fun u_103 t9 H locs ht9 hvm hw hB hz1 hk1 hS => ?_)
              obtain ⟨hP1, hD1⟩ := hB
              rw [ht9] at hP1
              have wu_103 := hw
              have q_105 : ((v3 31) + 1).toInt = (v3 31).toInt + 1 := ow_add rfl (by omega) (by omega)
              replace hv := MIv.up 31 hv (show 0 ≤ ((v3 31) + 1).toInt ∧ ((v3 31) + 1).toInt ≤ 1200 from by omega)
              replace hR : RI (va_up (va_up v3 33 v_93) 31 ((v3 31) + 1)) f3 := RI.upv 31 hR (by decide)
              replace hL : WL (va_up (va_up v3 33 v_93) 31 ((v3 31) + 1)) f3 := WL.upv 31 hL (by decide)
              replace hV_0 := FV.up hV_0 31 ((v3 31) + 1) (by decide)
              replace hW_3 := FV.up hW_3 31 ((v3 31) + 1) (by decide)
              replace hf := MIf.up 24 (i := (Int32.toNatClampNeg (v3 31))) hf (ow_any v_101)
              replace hF_0 := FF.up hF_0 24 (upd (f3 24) (Int32.toNatClampNeg (v3 31)) v_101) (by decide)
              replace hY_3 := FF.up hY_3 24 (upd (f3 24) (Int32.toNatClampNeg (v3 31)) v_101) (by decide)
              replace hR : RI (va_up (va_up v3 33 v_93) 31 ((v3 31) + 1)) (va_up f3 24 (upd (f3 24) (Int32.toNatClampNeg (v3 31)) v_101)) := RIb.w24 hR (show ((Int32.toNatClampNeg (v3 31) : Nat) : Int) < 600 * ((Int32.toNatClampNeg (v3 29) : Nat) : Int) ∨ 600 * ((Int32.toNatClampNeg (v3 29) : Nat) : Int) + 600 ≤ ((Int32.toNatClampNeg (v3 31) : Nat) : Int) from by rw [show v3 29 = (v 29) from (hV_3 29 (by decide))]; rw [ow_tn, ow_tn]; omega)
              replace hL : WL (va_up (va_up v3 33 v_93) 31 ((v3 31) + 1)) (va_up f3 24 (upd (f3 24) (Int32.toNatClampNeg (v3 31)) v_101)) := WL.upf 24 hL (by decide)
              replace hf := MIf.up 25 (i := (Int32.toNatClampNeg (v3 31))) hf (ow_any (0 : Int32))
              replace hF_0 := FF.up hF_0 25 (upd ((va_up f3 24 (upd (f3 24) (Int32.toNatClampNeg (v3 31)) v_101)) 25) (Int32.toNatClampNeg (v3 31)) (0 : Int32)) (by decide)
              replace hY_3 := FF.up hY_3 25 (upd ((va_up f3 24 (upd (f3 24) (Int32.toNatClampNeg (v3 31)) v_101)) 25) (Int32.toNatClampNeg (v3 31)) (0 : Int32)) (by decide)
              replace hR : RI (va_up (va_up v3 33 v_93) 31 ((v3 31) + 1)) (va_up (va_up f3 24 (upd (f3 24) (Int32.toNatClampNeg (v3 31)) v_101)) 25 (upd ((va_up f3 24 (upd (f3 24) (Int32.toNatClampNeg (v3 31)) v_101)) 25) (Int32.toNatClampNeg (v3 31)) (0 : Int32))) := RIb.w25 hR (show ((Int32.toNatClampNeg (v3 31) : Nat) : Int) < 600 * ((Int32.toNatClampNeg (v3 29) : Nat) : Int) ∨ 600 * ((Int32.toNatClampNeg (v3 29) : Nat) : Int) + 600 ≤ ((Int32.toNatClampNeg (v3 31) : Nat) : Int) from by rw [show v3 29 = (v 29) from (hV_3 29 (by decide))]; rw [ow_tn, ow_tn]; omega)
              replace hL : WL (va_up (va_up v3 33 v_93) 31 ((v3 31) + 1)) (va_up (va_up f3 24 (upd (f3 24) (Int32.toNatClampNeg (v3 31)) v_101)) 25 (upd ((va_up f3 24 (upd (f3 24) (Int32.toNatClampNeg (v3 31)) v_101)) 25) (Int32.toNatClampNeg (v3 31)) (0 : Int32))) := WL.upf 25 hL (by decide)
              have hP : va_P G vwCl (WMs cy mo h (va_up (va_up v3 33 v_93) 31 ((v3 31) + 1)) nm3 (va_up (va_up f3 24 (upd (f3 24) (Int32.toNatClampNeg (v3 31)) v_101)) 25 (upd ((va_up f3 24 (upd (f3 24) (Int32.toNatClampNeg (v3 31)) v_101)) 25) (Int32.toNatClampNeg (v3 31)) (0 : Int32))) g3) H := hP1
              have hD : va_D A (WMs cy mo h (va_up (va_up v3 33 v_93) 31 ((v3 31) + 1)) nm3 (va_up (va_up f3 24 (upd (f3 24) (Int32.toNatClampNeg (v3 31)) v_101)) 25 (upd ((va_up f3 24 (upd (f3 24) (Int32.toNatClampNeg (v3 31)) v_101)) 25) (Int32.toNatClampNeg (v3 31)) (0 : Int32))) g3) := hD1.weaken (fun _ _ _ h => hFc _ h)
              clear hFc hk1 hz1 hP1 hD1 hw
              refine lv_goto (tgt := 23) hx hb dX12_behindUnit_100 (by decide) ?_
              refine W.widen (k := 0) (n := 0) (Nat.le_of_ble_eq_true rfl) (Nat.le_of_ble_eq_true rfl) ?_
              have x1 : (f 26 (Int32.toNatClampNeg v_5)).toInt = (f 26 ((v3 33).toInt.toNat - 1)).toInt := by rw [show (Int32.toNatClampNeg v_5) = (v3 33).toInt.toNat - 1 from by rw [ow_tn]; omega]
              have x2 : (f 26 (Int32.toNatClampNeg v_93)).toInt = (f 26 ((v3 33).toInt.toNat - 1)).toInt := by rw [show (Int32.toNatClampNeg v_93) = (v3 33).toInt.toNat - 1 from by rw [ow_tn]; omega]
              have x3 : (f 27 (Int32.toNatClampNeg v_93)).toInt = (f 27 ((v3 33).toInt.toNat - 1)).toInt := by rw [show (Int32.toNatClampNeg v_93) = (v3 33).toInt.toNat - 1 from by rw [ow_tn]; omega]
              have hpop := EI.pop (s := v_101) (n := (0 : Int32)) (w' := (v3 32).toInt) qf3_0 (by omega) (by omega) (by omega) (by omega) ((ow_eq _ _).mpr (by omega)) (by omega)
              have hpop1 := hpop.1
              exact ih_3 (va_up (va_up v3 33 v_93) 31 ((v3 31) + 1)) nm3 (va_up (va_up f3 24 (upd (f3 24) (Int32.toNatClampNeg (v3 31)) v_101)) 25 (upd ((va_up f3 24 (upd (f3 24) (Int32.toNatClampNeg (v3 31)) v_101)) 25) (Int32.toNatClampNeg (v3 31)) (0 : Int32))) g3 _ _ _ hv hf hR hL hW_3 hY_3 (show EI 0 (v 30).toInt Fz ((v3 31) + 1).toInt v_93.toInt (v3 32).toInt ((f 13) (Int32.toNatClampNeg (v 30))).toInt (f 26) (f 27) (upd (f3 24) (Int32.toNatClampNeg (v3 31)) v_101) (upd (f3 25) (Int32.toNatClampNeg (v3 31)) (0 : Int32)) from by exact EI.cast hpop.2.2 (by omega) (by omega) (by omega) (by omega) rfl) (show OUT Fz (600 * (v 30).toInt + 600) (f 24) (f 25) (upd (f3 24) (Int32.toNatClampNeg (v3 31)) v_101) (upd (f3 25) (Int32.toNatClampNeg (v3 31)) (0 : Int32)) from by exact OUT.w qf3_1 _ _ ⟨by rw [ow_tn]; omega, by rw [ow_tn]; omega⟩) (show 1 ≤ v_93.toInt ∧ v_93.toInt ≤ (v 33).toInt from by omega) (show (v_93.toInt).toNat < N_3 from by omega) hP hD hS (lv_sub hl [0, 1] rfl)
            · have q_106 : v_96.toInt = (3 : Int32).toInt := (ow_eq _ _).mp c_98
              have x9 : (f 26 (Int32.toNatClampNeg v_93)).toInt = (f 26 ((v3 33).toInt.toNat - 1)).toInt := by rw [show (Int32.toNatClampNeg v_93) = (v3 33).toInt.toNat - 1 from by rw [ow_tn]; omega]
              have hw1 := EI.top qf3_0 (by omega) (by omega)
              refine lv_aload_n hx hb dX12_behindUnit_76 rfl (lv_at hl 1 rfl) ?_
              refine lv_dup hx hb dX12_behindUnit_77 rfl ?_
              refine mg_32 hx hb ht hown hK hP dX12_behindUnit_78 ?_
              refine ow_top (v3 32) rfl ?_
              have q_107 : 0 ≤ (v3 32).toInt ∧ (v3 32).toInt ≤ 7 := hv 32
              refine lv_iconst (v := 1) hx hb dX12_behindUnit_81 (by decide) ?_
              refine lv_isub hx hb dX12_behindUnit_82 ?_
              refine lv_topi (fun v_108 ev_108 => ?_)
              have q_109 : v_108.toInt = (v3 32).toInt - (1 : Int32).toInt := ow_sub ev_108 (by omega) (by omega)
              refine mp_32 hx hb ht hown hK hP hD hS dX12_behindUnit_83 (fun H locs hP hD hS => ?_)
              replace hv := MIv.up 32 hv (show 0 ≤ v_108.toInt ∧ v_108.toInt ≤ 7 from by omega)
              replace hL : WL (va_up (va_up v3 33 v_93) 32 v_108) f3 := WL.upv 32 hL (by decide)
              replace hR : RI (va_up (va_up v3 33 v_93) 32 v_108) f3 := RI.upv 32 hR (by decide)
              replace hV_0 := FV.up hV_0 32 v_108 (by decide)
              replace hW_3 := FV.up hW_3 32 v_108 (by decide)
              refine lv_aload_n hx hb dX12_behindUnit_86 rfl (lv_at hl 1 rfl) ?_
              refine lv_aload_n hx hb dX12_behindUnit_87 rfl (lv_at hl 1 rfl) ?_
              refine mg_27 hx hb ht hown hK hP dX12_behindUnit_88 ?_
              refine lv_aload_n hx hb dX12_behindUnit_91 rfl (lv_at hl 1 rfl) ?_
              refine mg_33 hx hb ht hown hK hP dX12_behindUnit_92 ?_
              refine ow_top v_93 rfl ?_
              have q_110 : vp_in v_93 120 := vp_in_iff.mpr ⟨by omega, by omega⟩
              refine ml_27 hx hb hK hP q_110 dX12_behindUnit_95 ?_
              refine lv_topi (fun v_111 ev_111 => ?_)
              have q_112 : v_111.toInt = ((f 27) (Int32.toNatClampNeg v_93)).toInt := (congrArg Int32.toInt ev_111).trans (congrArg (fun z : Nat → Int32 => (z (Int32.toNatClampNeg v_93)).toInt) (show f3 27 = (f 27) from (hF_3 27 (by decide))))
              refine lv_iconst (v := 0) hx hb dX12_behindUnit_96 (by decide) ?_
              have hFc := fr_free hD hS hA
              refine va_callv (va_runV (As := [.int v_111, .int 0]) (rest := []) ⟨hx, hb, hml, hown, ht⟩ (m_emit l G cy _ mo h T (va_up (va_up v3 33 v_93) 32 v_108) nm3 f3 g3 v_111 (0) ((v3 31)) hv hf hR hL rfl (show 0 ≤ ((v3 31)).toInt ∧ ((v3 31)).toInt ≤ 1199 from by omega)) (cwV 2 ht (gv k_256 k_257 k_258 k_61 k_255) rfl rfl rfl (by decide +kernel) ⟨Nat.le_of_ble_eq_true rfl, Nat.le_of_ble_eq_true rfl⟩) ⟨En.blind, va_recv hK hP (ci := 12) (q0 := 0) rfl rfl, fun U hU hW => ⟨rfl, En.of hU hW hP hK hD hN⟩⟩ rfl rfl hl.1 rfl (lv_room (Nat.le_of_ble_eq_true rfl)) dX12_behindUnit_97 ⟨Nat.le_of_ble_eq_true rfl, Nat.le_of_ble_eq_true rfl⟩) hS (fun q _ h => hFc q h) hFc (fun u_113 t9 H locs ht9 hvm hw hB hz1 hk1 hS => ?_)
              obtain ⟨hP1, hD1⟩ := hB
              rw [ht9] at hP1
              have wu_113 := hw
              have q_115 : ((v3 31) + 1).toInt = (v3 31).toInt + 1 := ow_add rfl (by omega) (by omega)
              replace hv := MIv.up 31 hv (show 0 ≤ ((v3 31) + 1).toInt ∧ ((v3 31) + 1).toInt ≤ 1200 from by omega)
              replace hR : RI (va_up (va_up (va_up v3 33 v_93) 32 v_108) 31 ((v3 31) + 1)) f3 := RI.upv 31 hR (by decide)
              replace hL : WL (va_up (va_up (va_up v3 33 v_93) 32 v_108) 31 ((v3 31) + 1)) f3 := WL.upv 31 hL (by decide)
              replace hV_0 := FV.up hV_0 31 ((v3 31) + 1) (by decide)
              replace hW_3 := FV.up hW_3 31 ((v3 31) + 1) (by decide)
              replace hf := MIf.up 24 (i := (Int32.toNatClampNeg (v3 31))) hf (ow_any v_111)
              replace hF_0 := FF.up hF_0 24 (upd (f3 24) (Int32.toNatClampNeg (v3 31)) v_111) (by decide)
              replace hY_3 := FF.up hY_3 24 (upd (f3 24) (Int32.toNatClampNeg (v3 31)) v_111) (by decide)
              replace hR : RI (va_up (va_up (va_up v3 33 v_93) 32 v_108) 31 ((v3 31) + 1)) (va_up f3 24 (upd (f3 24) (Int32.toNatClampNeg (v3 31)) v_111)) := RIb.w24 hR (show ((Int32.toNatClampNeg (v3 31) : Nat) : Int) < 600 * ((Int32.toNatClampNeg (v3 29) : Nat) : Int) ∨ 600 * ((Int32.toNatClampNeg (v3 29) : Nat) : Int) + 600 ≤ ((Int32.toNatClampNeg (v3 31) : Nat) : Int) from by rw [show v3 29 = (v 29) from (hV_3 29 (by decide))]; rw [ow_tn, ow_tn]; omega)
              replace hL : WL (va_up (va_up (va_up v3 33 v_93) 32 v_108) 31 ((v3 31) + 1)) (va_up f3 24 (upd (f3 24) (Int32.toNatClampNeg (v3 31)) v_111)) := WL.upf 24 hL (by decide)
              replace hf := MIf.up 25 (i := (Int32.toNatClampNeg (v3 31))) hf (ow_any (0 : Int32))
              replace hF_0 := FF.up hF_0 25 (upd ((va_up f3 24 (upd (f3 24) (Int32.toNatClampNeg (v3 31)) v_111)) 25) (Int32.toNatClampNeg (v3 31)) (0 : Int32)) (by decide)
              replace hY_3 := FF.up hY_3 25 (upd ((va_up f3 24 (upd (f3 24) (Int32.toNatClampNeg (v3 31)) v_111)) 25) (Int32.toNatClampNeg (v3 31)) (0 : Int32)) (by decide)
              replace hR : RI (va_up (va_up (va_up v3 33 v_93) 32 v_108) 31 ((v3 31) + 1)) (va_up (va_up f3 24 (upd (f3 24) (Int32.toNatClampNeg (v3 31)) v_111)) 25 (upd ((va_up f3 24 (upd (f3 24) (Int32.toNatClampNeg (v3 31)) v_111)) 25) (Int32.toNatClampNeg (v3 31)) (0 : Int32))) := RIb.w25 hR (show ((Int32.toNatClampNeg (v3 31) : Nat) : Int) < 600 * ((Int32.toNatClampNeg (v3 29) : Nat) : Int) ∨ 600 * ((Int32.toNatClampNeg (v3 29) : Nat) : Int) + 600 ≤ ((Int32.toNatClampNeg (v3 31) : Nat) : Int) from by rw [show v3 29 = (v 29) from (hV_3 29 (by decide))]; rw [ow_tn, ow_tn]; omega)
              replace hL : WL (va_up (va_up (va_up v3 33 v_93) 32 v_108) 31 ((v3 31) + 1)) (va_up (va_up f3 24 (upd (f3 24) (Int32.toNatClampNeg (v3 31)) v_111)) 25 (upd ((va_up f3 24 (upd (f3 24) (Int32.toNatClampNeg (v3 31)) v_111)) 25) (Int32.toNatClampNeg (v3 31)) (0 : Int32))) := WL.upf 25 hL (by decide)
              have hP : va_P G vwCl (WMs cy mo h (va_up (va_up (va_up v3 33 v_93) 32 v_108) 31 ((v3 31) + 1)) nm3 (va_up (va_up f3 24 (upd (f3 24) (Int32.toNatClampNeg (v3 31)) v_111)) 25 (upd ((va_up f3 24 (upd (f3 24) (Int32.toNatClampNeg (v3 31)) v_111)) 25) (Int32.toNatClampNeg (v3 31)) (0 : Int32))) g3) H := hP1
              have hD : va_D A (WMs cy mo h (va_up (va_up (va_up v3 33 v_93) 32 v_108) 31 ((v3 31) + 1)) nm3 (va_up (va_up f3 24 (upd (f3 24) (Int32.toNatClampNeg (v3 31)) v_111)) 25 (upd ((va_up f3 24 (upd (f3 24) (Int32.toNatClampNeg (v3 31)) v_111)) 25) (Int32.toNatClampNeg (v3 31)) (0 : Int32))) g3) := hD1.weaken (fun _ _ _ h => hFc _ h)
              clear hFc hk1 hz1 hP1 hD1 hw
              refine lv_goto (tgt := 23) hx hb dX12_behindUnit_100 (by decide) ?_
              refine W.widen (k := 0) (n := 0) (Nat.le_of_ble_eq_true rfl) (Nat.le_of_ble_eq_true rfl) ?_
              have x1 : (f 26 (Int32.toNatClampNeg v_5)).toInt = (f 26 ((v3 33).toInt.toNat - 1)).toInt := by rw [show (Int32.toNatClampNeg v_5) = (v3 33).toInt.toNat - 1 from by rw [ow_tn]; omega]
              have x2 : (f 26 (Int32.toNatClampNeg v_93)).toInt = (f 26 ((v3 33).toInt.toNat - 1)).toInt := by rw [show (Int32.toNatClampNeg v_93) = (v3 33).toInt.toNat - 1 from by rw [ow_tn]; omega]
              have x3 : (f 27 (Int32.toNatClampNeg v_93)).toInt = (f 27 ((v3 33).toInt.toNat - 1)).toInt := by rw [show (Int32.toNatClampNeg v_93) = (v3 33).toInt.toNat - 1 from by rw [ow_tn]; omega]
              have hpop := EI.pop (s := v_111) (n := (0 : Int32)) (w' := v_108.toInt) qf3_0 (by omega) (by omega) (by omega) (by omega) ((ow_eq _ _).mpr (by omega)) (by omega)
              have hpop1 := hpop.1
              exact ih_3 (va_up (va_up (va_up v3 33 v_93) 32 v_108) 31 ((v3 31) + 1)) nm3 (va_up (va_up f3 24 (upd (f3 24) (Int32.toNatClampNeg (v3 31)) v_111)) 25 (upd ((va_up f3 24 (upd (f3 24) (Int32.toNatClampNeg (v3 31)) v_111)) 25) (Int32.toNatClampNeg (v3 31)) (0 : Int32))) g3 _ _ _ hv hf hR hL hW_3 hY_3 (show EI 0 (v 30).toInt Fz ((v3 31) + 1).toInt v_93.toInt v_108.toInt ((f 13) (Int32.toNatClampNeg (v 30))).toInt (f 26) (f 27) (upd (f3 24) (Int32.toNatClampNeg (v3 31)) v_111) (upd (f3 25) (Int32.toNatClampNeg (v3 31)) (0 : Int32)) from by exact EI.cast hpop.2.2 (by omega) (by omega) (by omega) (by omega) rfl) (show OUT Fz (600 * (v 30).toInt + 600) (f 24) (f 25) (upd (f3 24) (Int32.toNatClampNeg (v3 31)) v_111) (upd (f3 25) (Int32.toNatClampNeg (v3 31)) (0 : Int32)) from by exact OUT.w qf3_1 _ _ ⟨by rw [ow_tn]; omega, by rw [ow_tn]; omega⟩) (show 1 ≤ v_93.toInt ∧ v_93.toInt ≤ (v 33).toInt from by omega) (show (v_93.toInt).toNat < N_3 from by omega) hP hD hS (lv_sub hl [0, 1] rfl)
    exact lp_3 _ v nm f g _ _ _ hv hf hR hL FV.rf FF.rf hE OUT.rf (show 1 ≤ (v 33).toInt ∧ (v 33).toInt ≤ (v 33).toInt from by omega) (Nat.lt_succ_self _) hP hD hS (lv_sub hl [0, 1] rfl)
  refine lv_iload_n hx hb dX12_behindUnit_5 rfl (lv_at hl 0 rfl) ?_
  refine lv_iconst (v := 4) hx hb dX12_behindUnit_6 (by decide) ?_
  refine lv_icmp_ne (tgt := 23) hx hb dX12_behindUnit_7 (by decide) (fun c_116 => ?_) (fun c_116 => ?_)
  · have q_117 : ¬ r_u_1.toInt = (4 : Int32).toInt := by have := (not_congr (ow_eq _ _)).mp c_116; omega
    refine W.widen (k := 0) (n := 0) (Nat.le_of_ble_eq_true rfl) (Nat.le_of_ble_eq_true rfl) ?_
    exact jn_2 _ _ _ hP hD hS (lv_sub hl [0, 1] rfl)
  · have q_118 : r_u_1.toInt = (4 : Int32).toInt := (ow_eq _ _).mp c_116
    refine lv_aload_n hx hb dX12_behindUnit_10 rfl (lv_at hl 1 rfl) ?_
    have hFc := fr_new hS hA
    refine va_calli (va_runV (As := []) (rest := []) ⟨hx, hb, hml, hown, ht⟩ (m_isCompared l G cy _ mo h T v nm f g   hv hf hR hL (show 1 ≤ (v 33).toInt from by omega) (show (f 26 0).toInt = 7 from by omega)) (cwV 0 ht (gv k_272 k_273 k_274 k_61 k_271) rfl rfl rfl (by decide +kernel) ⟨Nat.le_of_ble_eq_true rfl, Nat.le_of_ble_eq_true rfl⟩) ⟨En.blind, va_recv hK hP (ci := 12) (q0 := 0) rfl rfl, fun U hU hW => ⟨rfl, En.of hU hW hP hK hD hN⟩⟩ rfl rfl hl.1 rfl (lv_room (Nat.le_of_ble_eq_true rfl)) dX12_behindUnit_11 ⟨Nat.le_of_ble_eq_true rfl, Nat.le_of_ble_eq_true rfl⟩) hS (fun q _ h => hFc q h) hFc (fun r_u_119 u_119 t9 H locs ht9 hvm hw hB hz1 hk1 hS => ?_)
    have hP := fr_keep hP hk1
    have wu_119 := hw
    clear hFc hk1 hz1 hB hw
    refine lv_if_eq (tgt := 23) hx hb dX12_behindUnit_14 (by decide) (fun c_120 => ?_) (fun c_120 => ?_)
    · have q_121 : r_u_119.toInt = (0 : Int32).toInt := (ow_eq _ _).mp c_120
      refine W.widen (k := 0) (n := 0) (Nat.le_of_ble_eq_true rfl) (Nat.le_of_ble_eq_true rfl) ?_
      exact jn_2 _ _ _ hP hD hS (lv_sub hl [0, 1] rfl)
    · have q_122 : ¬ r_u_119.toInt = (0 : Int32).toInt := by have := (not_congr (ow_eq _ _)).mp c_120; omega
      refine lv_aload_n hx hb dX12_behindUnit_17 rfl (lv_at hl 1 rfl) ?_
      have hFc := fr_free hD hS hA
      refine va_callv (va_runV (As := []) (rest := []) ⟨hx, hb, hml, hown, ht⟩ (m_misplaced l G cy _ mo h T v nm f g   hv hf hR hL) (cwV 0 ht (gv k_228 k_229 k_230 k_61 k_227) rfl rfl rfl (by decide +kernel) ⟨Nat.le_of_ble_eq_true rfl, Nat.le_of_ble_eq_true rfl⟩) ⟨En.blind, va_recv hK hP (ci := 12) (q0 := 0) rfl rfl, fun U hU hW => ⟨rfl, En.of hU hW hP hK hD hN⟩⟩ rfl rfl hl.1 rfl (lv_room (Nat.le_of_ble_eq_true rfl)) dX12_behindUnit_18 ⟨Nat.le_of_ble_eq_true rfl, Nat.le_of_ble_eq_true rfl⟩) hS (fun q _ h => hFc q h) hFc (fun u_123 t9 H locs ht9 hvm hw hB hz1 hk1 hS => ?_)
      obtain ⟨v123, nm123⟩ := u_123
      obtain ⟨hP1, hD1⟩ := hB
      rw [ht9] at hP1
      obtain ⟨hv, xu_123V, wu_123⟩ := hw
      dsimp only at hv xu_123V wu_123
      have hP : va_P G vwCl (WMs cy mo h v123 nm123 f g) H := hP1
      have hD : va_D A (WMs cy mo h v123 nm123 f g) := hD1.weaken (fun _ _ _ h => hFc _ h)
      replace hR : RI v123 f := RI.fv hR xu_123V (by decide)
      replace hL : WL v123 f := WL.fv hL xu_123V (by decide) (by decide)
      replace hV_0 := FV.tr hV_0 xu_123V (by decide)
      clear hFc hk1 hz1 hP1 hD1
      replace wu_123 : (1 ≤ (v123 4).toInt) := wu_123
      refine lv_iconst (v := 1) hx hb dX12_behindUnit_21 (by decide) ?_
      refine W.widen (k := 0) (n := 0) (Nat.le_of_ble_eq_true rfl) (Nat.le_of_ble_eq_true rfl) ?_
      exact W.zret (v := 1) hx hb hr rfl (fun t ht9 hW => ⟨⟨1, (v123, nm123, f, g), rfl, ⟨hv, hf, hR, hL, hV_0, hF_0, ⟨(by omega), (show (v123 7).toInt ≤ (v 3).toInt from by rw [(show v123 7 = (v 7) from (xu_123V 7 (by decide)))]; first | omega | (subst_vars; first | rfl | omega))⟩, (show 0 ≤ mz (v 3).toInt (v123 7).toInt (v123 8).toInt ∧ mz (v 3).toInt (v123 7).toInt (v123 8).toInt ≤ mz (v 3).toInt (v 7).toInt (v 8).toInt ∧ ((v123 4).toInt ≠ 0 ∨ mz (v 3).toInt (v123 7).toInt (v123 8).toInt < mz (v 3).toInt (v 7).toInt (v 8).toInt ∨ (v123 33).toInt < (v 33).toInt) from by rw [(show v123 7 = (v 7) from (xu_123V 7 (by decide))), (show v123 8 = (v 8) from (xu_123V 8 (by decide))), (show v123 33 = (v 33) from (xu_123V 33 (by decide)))]; omega), (show (v123 4).toInt = 0 → EI (1 : Int32).toInt (v 30).toInt Fz (v123 31).toInt (v123 33).toInt (v123 32).toInt (f 13 (Int32.toNatClampNeg (v 30))).toInt (f 26) (f 27) (f 24) (f 25) from by rw [(show v123 31 = (v 31) from (xu_123V 31 (by decide))), (show v123 33 = (v 33) from (xu_123V 33 (by decide))), (show v123 32 = (v 32) from (xu_123V 32 (by decide)))]; exact fun h9 => absurd h9 (by omega)), (show OUT Fz (600 * (v 30).toInt + 600) (f 24) (f 25) (f 24) (f 25) from by exact OUT.rf)⟩, ⟨by rw [ht9]; exact hP, hD⟩⟩, hS.F ht9⟩) hS.2.2 dX12_behindUnit_22
