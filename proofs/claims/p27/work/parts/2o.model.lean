theorem k_311 : (Cond.code yX12_clearBank cX12_clearBank 1 none) ∈ TBg := tb_mem 1016 (by decide +kernel) (by decide +kernel)
theorem k_312 : (Cond.methodLink RX12 131 yX12_clearBank) ∈ TBg := tb_mem 1013 (by decide +kernel) (by decide +kernel)
theorem k_313 : (Cond.instanceMethod yX12_clearBank) ∈ TBg := tb_mem 1015 (by decide +kernel) (by decide +kernel)
theorem k_314 : (Cond.selects RX12 yX12_clearBank yX12_clearBank) ∈ TBg := tb_mem 31 (by decide +kernel) (by decide +kernel)
theorem k_315 : (Cond.code yX12_readLine cX12_readLine 3 none) ∈ TBg := tb_mem 1238 (by decide +kernel) (by decide +kernel)
theorem k_316 : (Cond.methodLink RX12 230 yX12_readLine) ∈ TBg := tb_mem 1235 (by decide +kernel) (by decide +kernel)
theorem k_317 : (Cond.instanceMethod yX12_readLine) ∈ TBg := tb_mem 1237 (by decide +kernel) (by decide +kernel)
theorem k_318 : (Cond.selects RX12 yX12_readLine yX12_readLine) ∈ TBg := tb_mem 35 (by decide +kernel) (by decide +kernel)
theorem dX12_clearBank_0 : decode cX12_clearBank 0 = .ok (.aload_n 0, 1) := by decide +kernel
theorem dX12_clearBank_1 : decode cX12_clearBank 1 = .ok (.getfield 20, 3) := by decide +kernel
theorem dX12_clearBank_4 : decode cX12_clearBank 4 = .ok (.aload_n 0, 1) := by decide +kernel
theorem dX12_clearBank_5 : decode cX12_clearBank 5 = .ok (.getfield 218, 3) := by decide +kernel
theorem dX12_clearBank_8 : decode cX12_clearBank 8 = .ok (.iconst 0, 1) := by decide +kernel
theorem dX12_clearBank_9 : decode cX12_clearBank 9 = .ok (.iastore, 1) := by decide +kernel
theorem dX12_clearBank_10 : decode cX12_clearBank 10 = .ok (.aload_n 0, 1) := by decide +kernel
theorem dX12_clearBank_11 : decode cX12_clearBank 11 = .ok (.getfield 24, 3) := by decide +kernel
theorem dX12_clearBank_14 : decode cX12_clearBank 14 = .ok (.aload_n 0, 1) := by decide +kernel
theorem dX12_clearBank_15 : decode cX12_clearBank 15 = .ok (.getfield 218, 3) := by decide +kernel
theorem dX12_clearBank_18 : decode cX12_clearBank 18 = .ok (.iconst 0, 1) := by decide +kernel
theorem dX12_clearBank_19 : decode cX12_clearBank 19 = .ok (.iastore, 1) := by decide +kernel
theorem dX12_clearBank_20 : decode cX12_clearBank 20 = .ok (.aload_n 0, 1) := by decide +kernel
theorem dX12_clearBank_21 : decode cX12_clearBank 21 = .ok (.getfield 27, 3) := by decide +kernel
theorem dX12_clearBank_24 : decode cX12_clearBank 24 = .ok (.aload_n 0, 1) := by decide +kernel
theorem dX12_clearBank_25 : decode cX12_clearBank 25 = .ok (.getfield 218, 3) := by decide +kernel
theorem dX12_clearBank_28 : decode cX12_clearBank 28 = .ok (.iconst 0, 1) := by decide +kernel
theorem dX12_clearBank_29 : decode cX12_clearBank 29 = .ok (.iastore, 1) := by decide +kernel
theorem dX12_clearBank_30 : decode cX12_clearBank 30 = .ok (.aload_n 0, 1) := by decide +kernel
theorem dX12_clearBank_31 : decode cX12_clearBank 31 = .ok (.getfield 30, 3) := by decide +kernel
theorem dX12_clearBank_34 : decode cX12_clearBank 34 = .ok (.aload_n 0, 1) := by decide +kernel
theorem dX12_clearBank_35 : decode cX12_clearBank 35 = .ok (.getfield 218, 3) := by decide +kernel
theorem dX12_clearBank_38 : decode cX12_clearBank 38 = .ok (.sipush 921, 3) := by decide +kernel
theorem dX12_clearBank_41 : decode cX12_clearBank 41 = .ok (.iastore, 1) := by decide +kernel
theorem dX12_clearBank_42 : decode cX12_clearBank 42 = .ok (.aload_n 0, 1) := by decide +kernel
theorem dX12_clearBank_43 : decode cX12_clearBank 43 = .ok (.getfield 51, 3) := by decide +kernel
theorem dX12_clearBank_46 : decode cX12_clearBank 46 = .ok (.aload_n 0, 1) := by decide +kernel
theorem dX12_clearBank_47 : decode cX12_clearBank 47 = .ok (.getfield 218, 3) := by decide +kernel
theorem dX12_clearBank_50 : decode cX12_clearBank 50 = .ok (.iconst 0, 1) := by decide +kernel
theorem dX12_clearBank_51 : decode cX12_clearBank 51 = .ok (.bastore, 1) := by decide +kernel
theorem dX12_clearBank_52 : decode cX12_clearBank 52 = .ok (.aload_n 0, 1) := by decide +kernel
theorem dX12_clearBank_53 : decode cX12_clearBank 53 = .ok (.sipush 600, 3) := by decide +kernel
theorem dX12_clearBank_56 : decode cX12_clearBank 56 = .ok (.aload_n 0, 1) := by decide +kernel
theorem dX12_clearBank_57 : decode cX12_clearBank 57 = .ok (.getfield 218, 3) := by decide +kernel
theorem dX12_clearBank_60 : decode cX12_clearBank 60 = .ok (.imul, 1) := by decide +kernel
theorem dX12_clearBank_61 : decode cX12_clearBank 61 = .ok (.putfield 221, 3) := by decide +kernel
theorem dX12_clearBank_64 : decode cX12_clearBank 64 = .ok (.return_, 1) := by decide +kernel
theorem dX12_town_0 : decode cX12_town 0 = .ok (.aload_n 0, 1) := by decide +kernel
theorem dX12_town_1 : decode cX12_town 1 = .ok (.iconst 0, 1) := by decide +kernel
theorem dX12_town_2 : decode cX12_town 2 = .ok (.putfield 137, 3) := by decide +kernel
theorem dX12_town_5 : decode cX12_town 5 = .ok (.aload_n 0, 1) := by decide +kernel
theorem dX12_town_6 : decode cX12_town 6 = .ok (.iconst (-1), 1) := by decide +kernel
theorem dX12_town_7 : decode cX12_town 7 = .ok (.putfield 16, 3) := by decide +kernel
theorem dX12_town_10 : decode cX12_town 10 = .ok (.aload_n 0, 1) := by decide +kernel
theorem dX12_town_11 : decode cX12_town 11 = .ok (.aload_n 0, 1) := by decide +kernel
theorem dX12_town_12 : decode cX12_town 12 = .ok (.getfield 224, 3) := by decide +kernel
theorem dX12_town_15 : decode cX12_town 15 = .ok (.putfield 134, 3) := by decide +kernel
theorem dX12_town_18 : decode cX12_town 18 = .ok (.iconst 0, 1) := by decide +kernel
theorem dX12_town_19 : decode cX12_town 19 = .ok (.istore_n 1, 1) := by decide +kernel
theorem dX12_town_20 : decode cX12_town 20 = .ok (.iload_n 1, 1) := by decide +kernel
theorem dX12_town_21 : decode cX12_town 21 = .ok (.aload_n 0, 1) := by decide +kernel
theorem dX12_town_22 : decode cX12_town 22 = .ok (.getfield 134, 3) := by decide +kernel
theorem dX12_town_25 : decode cX12_town 25 = .ok (.if_icmp .ge 21, 3) := by decide +kernel
theorem dX12_town_46 : decode cX12_town 46 = .ok (.aload_n 0, 1) := by decide +kernel
theorem dX12_town_47 : decode cX12_town 47 = .ok (.iconst 0, 1) := by decide +kernel
theorem dX12_town_48 : decode cX12_town 48 = .ok (.putfield 224, 3) := by decide +kernel
theorem dX12_town_51 : decode cX12_town 51 = .ok (.aload_n 0, 1) := by decide +kernel
theorem dX12_town_52 : decode cX12_town 52 = .ok (.iconst 0, 1) := by decide +kernel
theorem dX12_town_53 : decode cX12_town 53 = .ok (.putfield 170, 3) := by decide +kernel
theorem dX12_town_56 : decode cX12_town 56 = .ok (.aload_n 0, 1) := by decide +kernel
theorem dX12_town_57 : decode cX12_town 57 = .ok (.iconst 1, 1) := by decide +kernel
theorem dX12_town_58 : decode cX12_town 58 = .ok (.aload_n 0, 1) := by decide +kernel
theorem dX12_town_59 : decode cX12_town 59 = .ok (.getfield 227, 3) := by decide +kernel
theorem dX12_town_62 : decode cX12_town 62 = .ok (.isub, 1) := by decide +kernel
theorem dX12_town_63 : decode cX12_town 63 = .ok (.putfield 218, 3) := by decide +kernel
theorem dX12_town_66 : decode cX12_town 66 = .ok (.aload_n 0, 1) := by decide +kernel
theorem dX12_town_67 : decode cX12_town 67 = .ok (.invokevirtual 131, 3) := by decide +kernel
theorem dX12_town_70 : decode cX12_town 70 = .ok (.aload_n 0, 1) := by decide +kernel
theorem dX12_town_71 : decode cX12_town 71 = .ok (.invokevirtual 212, 3) := by decide +kernel
theorem dX12_town_74 : decode cX12_town 74 = .ok (.aload_n 0, 1) := by decide +kernel
theorem dX12_town_75 : decode cX12_town 75 = .ok (.invokevirtual 208, 3) := by decide +kernel
theorem dX12_town_78 : decode cX12_town 78 = .ok (.ifCond .eq 17, 3) := by decide +kernel
theorem dX12_town_95 : decode cX12_town 95 = .ok (.aload_n 0, 1) := by decide +kernel
theorem dX12_town_96 : decode cX12_town 96 = .ok (.invokevirtual 208, 3) := by decide +kernel
theorem dX12_town_99 : decode cX12_town 99 = .ok (.ifCond .ne 5, 3) := by decide +kernel
theorem dX12_town_104 : decode cX12_town 104 = .ok (.aload_n 0, 1) := by decide +kernel
theorem dX12_town_105 : decode cX12_town 105 = .ok (.aload_n 0, 1) := by decide +kernel
theorem dX12_town_106 : decode cX12_town 106 = .ok (.getfield 218, 3) := by decide +kernel
theorem dX12_town_109 : decode cX12_town 109 = .ok (.putfield 227, 3) := by decide +kernel
theorem dX12_town_112 : decode cX12_town 112 = .ok (.aload_n 0, 1) := by decide +kernel
theorem dX12_town_113 : decode cX12_town 113 = .ok (.iconst 0, 1) := by decide +kernel
theorem dX12_town_114 : decode cX12_town 114 = .ok (.putfield 233, 3) := by decide +kernel
theorem dX12_town_117 : decode cX12_town 117 = .ok (.aload_n 0, 1) := by decide +kernel
theorem dX12_town_118 : decode cX12_town 118 = .ok (.iconst 0, 1) := by decide +kernel
theorem dX12_town_119 : decode cX12_town 119 = .ok (.putfield 236, 3) := by decide +kernel
theorem dX12_town_122 : decode cX12_town 122 = .ok (.aload_n 0, 1) := by decide +kernel
theorem dX12_town_123 : decode cX12_town 123 = .ok (.iconst 0, 1) := by decide +kernel
theorem dX12_town_124 : decode cX12_town 124 = .ok (.putfield 239, 3) := by decide +kernel
theorem dX12_town_127 : decode cX12_town 127 = .ok (.iconst 0, 1) := by decide +kernel
theorem dX12_town_128 : decode cX12_town 128 = .ok (.istore_n 1, 1) := by decide +kernel
theorem dX12_town_129 : decode cX12_town 129 = .ok (.iload_n 1, 1) := by decide +kernel
theorem dX12_town_130 : decode cX12_town 130 = .ok (.bipush 8, 2) := by decide +kernel
theorem dX12_town_132 : decode cX12_town 132 = .ok (.if_icmp .ge 23, 3) := by decide +kernel
theorem dX12_town_155 : decode cX12_town 155 = .ok (.iconst 0, 1) := by decide +kernel
theorem dX12_town_156 : decode cX12_town 156 = .ok (.istore_n 1, 1) := by decide +kernel
theorem dX12_town_157 : decode cX12_town 157 = .ok (.iload_n 1, 1) := by decide +kernel
theorem dX12_town_158 : decode cX12_town 158 = .ok (.iconst 3, 1) := by decide +kernel
theorem dX12_town_159 : decode cX12_town 159 = .ok (.if_icmp .ge 16, 3) := by decide +kernel
theorem dX12_town_175 : decode cX12_town 175 = .ok (.aload_n 0, 1) := by decide +kernel
theorem dX12_town_176 : decode cX12_town 176 = .ok (.getfield 24, 3) := by decide +kernel
theorem dX12_town_179 : decode cX12_town 179 = .ok (.aload_n 0, 1) := by decide +kernel
theorem dX12_town_180 : decode cX12_town 180 = .ok (.getfield 227, 3) := by decide +kernel
theorem dX12_town_183 : decode cX12_town 183 = .ok (.iaload, 1) := by decide +kernel
theorem dX12_town_184 : decode cX12_town 184 = .ok (.ireturn, 1) := by decide +kernel
theorem dX12_town_162 : decode cX12_town 162 = .ok (.aload_n 0, 1) := by decide +kernel
theorem dX12_town_163 : decode cX12_town 163 = .ok (.getfield 113, 3) := by decide +kernel
theorem dX12_town_166 : decode cX12_town 166 = .ok (.iload_n 1, 1) := by decide +kernel
theorem dX12_town_167 : decode cX12_town 167 = .ok (.iconst (-1), 1) := by decide +kernel
theorem dX12_town_168 : decode cX12_town 168 = .ok (.iastore, 1) := by decide +kernel
theorem dX12_town_169 : decode cX12_town 169 = .ok (.iinc 1 1, 3) := by decide +kernel
theorem dX12_town_172 : decode cX12_town 172 = .ok (.goto (-15), 3) := by decide +kernel
theorem dX12_town_135 : decode cX12_town 135 = .ok (.aload_n 0, 1) := by decide +kernel
theorem dX12_town_136 : decode cX12_town 136 = .ok (.getfield 77, 3) := by decide +kernel
theorem dX12_town_139 : decode cX12_town 139 = .ok (.iload_n 1, 1) := by decide +kernel
theorem dX12_town_140 : decode cX12_town 140 = .ok (.iconst 0, 1) := by decide +kernel
theorem dX12_town_141 : decode cX12_town 141 = .ok (.bastore, 1) := by decide +kernel
theorem dX12_town_142 : decode cX12_town 142 = .ok (.aload_n 0, 1) := by decide +kernel
theorem dX12_town_143 : decode cX12_town 143 = .ok (.getfield 80, 3) := by decide +kernel
theorem dX12_town_146 : decode cX12_town 146 = .ok (.iload_n 1, 1) := by decide +kernel
theorem dX12_town_147 : decode cX12_town 147 = .ok (.iconst 0, 1) := by decide +kernel
theorem dX12_town_148 : decode cX12_town 148 = .ok (.iastore, 1) := by decide +kernel
theorem dX12_town_149 : decode cX12_town 149 = .ok (.iinc 1 1, 3) := by decide +kernel
theorem dX12_town_152 : decode cX12_town 152 = .ok (.goto (-23), 3) := by decide +kernel
theorem dX12_town_102 : decode cX12_town 102 = .ok (.iconst (-1), 1) := by decide +kernel
theorem dX12_town_103 : decode cX12_town 103 = .ok (.ireturn, 1) := by decide +kernel
theorem dX12_town_81 : decode cX12_town 81 = .ok (.aload_n 0, 1) := by decide +kernel
theorem dX12_town_82 : decode cX12_town 82 = .ok (.getfield 180, 3) := by decide +kernel
theorem dX12_town_85 : decode cX12_town 85 = .ok (.ifCond .eq 10, 3) := by decide +kernel
theorem dX12_town_88 : decode cX12_town 88 = .ok (.aload_n 0, 1) := by decide +kernel
theorem dX12_town_89 : decode cX12_town 89 = .ok (.invokevirtual 230, 3) := by decide +kernel
theorem dX12_town_92 : decode cX12_town 92 = .ok (.goto (-18), 3) := by decide +kernel
theorem dX12_town_28 : decode cX12_town 28 = .ok (.aload_n 0, 1) := by decide +kernel
theorem dX12_town_29 : decode cX12_town 29 = .ok (.getfield 13, 3) := by decide +kernel
theorem dX12_town_32 : decode cX12_town 32 = .ok (.iload_n 1, 1) := by decide +kernel
theorem dX12_town_33 : decode cX12_town 33 = .ok (.aload_n 0, 1) := by decide +kernel
theorem dX12_town_34 : decode cX12_town 34 = .ok (.getfield 7, 3) := by decide +kernel
theorem dX12_town_37 : decode cX12_town 37 = .ok (.iload_n 1, 1) := by decide +kernel
theorem dX12_town_38 : decode cX12_town 38 = .ok (.baload, 1) := by decide +kernel
theorem dX12_town_39 : decode cX12_town 39 = .ok (.bastore, 1) := by decide +kernel
theorem dX12_town_40 : decode cX12_town 40 = .ok (.iinc 1 1, 3) := by decide +kernel
theorem dX12_town_43 : decode cX12_town 43 = .ok (.goto (-23), 3) := by decide +kernel
set_option maxHeartbeats 4000000 in
set_option maxRecDepth 100000 in
theorem m_clearBank (l : Launch) (G : va_G) (cy : Nat → ClassId) (sz : Nat) (mo : Nat) (h : Nat → Nat) (T : Int) (v : Nat → Int32) (nm : Int64) (f : Nat → Nat → Int32) (g : Nat → Nat → Int64)  (cd : Int32) (hv : MIv T v) (hf : MIf f) (hR : RI v f) (hL : WL v f) (hcd : v 30 = cd) (hcr : 0 ≤ cd.toInt ∧ cd.toInt ≤ 1) : Met l yX12_clearBank (.code yX12_clearBank cX12_clearBank 1 none :: TBg) ({ frames := 1, cells := 0, slots := 0, locals := 64 }) (va_Pc [.ref mo] (En G cy (WMs cy mo h v nm f g) sz)) (va_Qv (fun (_ : Unit) => True) (fun _ t => Ex G (va_A (WMs cy mo h v nm f g) sz) (WMs cy mo h (va_up v 31 (600 * cd)) nm (va_up (va_up (va_up (va_up (va_up f 11 (upd (f 11) (Int32.toNatClampNeg cd) 0)) 12 (upd ((va_up f 11 (upd (f 11) (Int32.toNatClampNeg cd) 0)) 12) (Int32.toNatClampNeg cd) 0)) 13 (upd ((va_up (va_up f 11 (upd (f 11) (Int32.toNatClampNeg cd) 0)) 12 (upd ((va_up f 11 (upd (f 11) (Int32.toNatClampNeg cd) 0)) 12) (Int32.toNatClampNeg cd) 0)) 13) (Int32.toNatClampNeg cd) 0)) 14 (upd ((va_up (va_up (va_up f 11 (upd (f 11) (Int32.toNatClampNeg cd) 0)) 12 (upd ((va_up f 11 (upd (f 11) (Int32.toNatClampNeg cd) 0)) 12) (Int32.toNatClampNeg cd) 0)) 13 (upd ((va_up (va_up f 11 (upd (f 11) (Int32.toNatClampNeg cd) 0)) 12 (upd ((va_up f 11 (upd (f 11) (Int32.toNatClampNeg cd) 0)) 12) (Int32.toNatClampNeg cd) 0)) 13) (Int32.toNatClampNeg cd) 0)) 14) (Int32.toNatClampNeg cd) 921)) 21 (upd ((va_up (va_up (va_up (va_up f 11 (upd (f 11) (Int32.toNatClampNeg cd) 0)) 12 (upd ((va_up f 11 (upd (f 11) (Int32.toNatClampNeg cd) 0)) 12) (Int32.toNatClampNeg cd) 0)) 13 (upd ((va_up (va_up f 11 (upd (f 11) (Int32.toNatClampNeg cd) 0)) 12 (upd ((va_up f 11 (upd (f 11) (Int32.toNatClampNeg cd) 0)) 12) (Int32.toNatClampNeg cd) 0)) 13) (Int32.toNatClampNeg cd) 0)) 14 (upd ((va_up (va_up (va_up f 11 (upd (f 11) (Int32.toNatClampNeg cd) 0)) 12 (upd ((va_up f 11 (upd (f 11) (Int32.toNatClampNeg cd) 0)) 12) (Int32.toNatClampNeg cd) 0)) 13 (upd ((va_up (va_up f 11 (upd (f 11) (Int32.toNatClampNeg cd) 0)) 12 (upd ((va_up f 11 (upd (f 11) (Int32.toNatClampNeg cd) 0)) 12) (Int32.toNatClampNeg cd) 0)) 13) (Int32.toNatClampNeg cd) 0)) 14) (Int32.toNatClampNeg cd) 921)) 21) (Int32.toNatClampNeg cd) (vp_nar .boolean 0))) g) t) (va_A (WMs cy mo h v nm f g) sz)) 0 0 (va_A (WMs cy mo h v nm f g) sz) := by
  refine Met.ofW (cc := cX12_clearBank) (maxL := 1) (ret := none) (by decide) rfl ?_
  intro p e s m args below meth c s₁ B hml hv9
  obtain ⟨rfl, hsz, hP, hK, hD0, hN⟩ := hv9
  have hx := B.exec
  have hb := B.bytes
  have hr := B.returns
  have hts := atoms_spec (ws := .code yX12_clearBank cX12_clearBank 1 none :: TBg) B.pre
  have ht : ∀ w ∈ TBg, w.before _ s = true := fun w h => hts w (List.mem_cons_of_mem _ h)
  have hown : s.vm.findClass RX12 = some m.cls := findClass_of_methodNamed B.named
  have hlocks := B.notSynchronized
  subst hsz
  have hD := hD0.self (sz := s.heap.size)
  generalize hAe : va_A (WMs cy mo h v nm f g) s.heap.size = A at hD ⊢
  have hA : ∀ q : Nat, s.heap.size ≤ q → A q := fun q h => by rw [← hAe]; exact Or.inr h
  have hS : va_S A s.heap s.heap [] := va_S.rf
  have hl := lv_entry ([.ref mo]) (n := 1) (Nat.le_of_ble_eq_true rfl)
  rw [lg_entry_eq]
  generalize (lg_sl ([.ref mo]) ++ List.replicate (1 - (lg_sl ([.ref mo])).length) Slot.unset).toArray = ls at hl ⊢
  have hl : lv_has ls 1 [(0, .ref mo)] := hl
  have z0 : (0 : Int32).toInt = 0 := by decide
  have z1 : (600 : Int32).toInt = 600 := by decide
  refine lv_aload_n hx hb dX12_clearBank_0 rfl (lv_at hl 0 rfl) ?_
  refine mg_11 hx hb ht hown hK hP dX12_clearBank_1 ?_
  refine lv_aload_n hx hb dX12_clearBank_4 rfl (lv_at hl 0 rfl) ?_
  refine mg_30 hx hb ht hown hK hP dX12_clearBank_5 ?_
  have q_1 : 0 ≤ (v 30).toInt ∧ (v 30).toInt ≤ 1 := hv 30
  refine lv_iconst (v := 0) hx hb dX12_clearBank_8 (by decide) ?_
  have q_2 : vp_in (v 30) 2 := vp_in_iff.mpr ⟨by omega, by omega⟩
  refine ms_11 hx hb hK hP hD hS q_2 dX12_clearBank_9 (fun H locs hP hD hS => ?_)
  replace hf := MIf.up 11 (i := (Int32.toNatClampNeg (v 30))) hf (show 0 ≤ (0 : Int32).toInt ∧ (0 : Int32).toInt ≤ 14 from by omega)
  refine lv_aload_n hx hb dX12_clearBank_10 rfl (lv_at hl 0 rfl) ?_
  refine mg_12 hx hb ht hown hK hP dX12_clearBank_11 ?_
  refine lv_aload_n hx hb dX12_clearBank_14 rfl (lv_at hl 0 rfl) ?_
  refine mg_30 hx hb ht hown hK hP dX12_clearBank_15 ?_
  refine lv_iconst (v := 0) hx hb dX12_clearBank_18 (by decide) ?_
  have q_3 : vp_in (v 30) 2 := vp_in_iff.mpr ⟨by omega, by omega⟩
  refine ms_12 hx hb hK hP hD hS q_3 dX12_clearBank_19 (fun H locs hP hD hS => ?_)
  replace hf := MIf.up 12 (i := (Int32.toNatClampNeg (v 30))) hf (show 0 ≤ (0 : Int32).toInt ∧ (0 : Int32).toInt ≤ 8 from by omega)
  refine lv_aload_n hx hb dX12_clearBank_20 rfl (lv_at hl 0 rfl) ?_
  refine mg_13 hx hb ht hown hK hP dX12_clearBank_21 ?_
  refine lv_aload_n hx hb dX12_clearBank_24 rfl (lv_at hl 0 rfl) ?_
  refine mg_30 hx hb ht hown hK hP dX12_clearBank_25 ?_
  refine lv_iconst (v := 0) hx hb dX12_clearBank_28 (by decide) ?_
  have q_4 : vp_in (v 30) 2 := vp_in_iff.mpr ⟨by omega, by omega⟩
  refine ms_13 hx hb hK hP hD hS q_4 dX12_clearBank_29 (fun H locs hP hD hS => ?_)
  replace hf := MIf.up 13 (i := (Int32.toNatClampNeg (v 30))) hf (show 0 ≤ (0 : Int32).toInt ∧ (0 : Int32).toInt ≤ 60 from by omega)
  refine lv_aload_n hx hb dX12_clearBank_30 rfl (lv_at hl 0 rfl) ?_
  refine mg_14 hx hb ht hown hK hP dX12_clearBank_31 ?_
  refine lv_aload_n hx hb dX12_clearBank_34 rfl (lv_at hl 0 rfl) ?_
  refine mg_30 hx hb ht hown hK hP dX12_clearBank_35 ?_
  refine lv_sipush (v := 921) hx hb dX12_clearBank_38 (by decide) ?_
  have q_5 : vp_in (v 30) 2 := vp_in_iff.mpr ⟨by omega, by omega⟩
  refine ms_14 hx hb hK hP hD hS q_5 dX12_clearBank_41 (fun H locs hP hD hS => ?_)
  replace hf := MIf.up 14 (i := (Int32.toNatClampNeg (v 30))) hf (ow_any (921 : Int32))
  refine lv_aload_n hx hb dX12_clearBank_42 rfl (lv_at hl 0 rfl) ?_
  refine mg_21 hx hb ht hown hK hP dX12_clearBank_43 ?_
  refine lv_aload_n hx hb dX12_clearBank_46 rfl (lv_at hl 0 rfl) ?_
  refine mg_30 hx hb ht hown hK hP dX12_clearBank_47 ?_
  refine lv_iconst (v := 0) hx hb dX12_clearBank_50 (by decide) ?_
  have q_6 : vp_in (v 30) 2 := vp_in_iff.mpr ⟨by omega, by omega⟩
  refine ms_21 hx hb hK hP hD hS q_6 dX12_clearBank_51 (fun H locs hP hD hS => ?_)
  replace hf := MIf.up 21 (i := (Int32.toNatClampNeg (v 30))) hf (ow_any (vp_nar .boolean 0))
  refine lv_aload_n hx hb dX12_clearBank_52 rfl (lv_at hl 0 rfl) ?_
  refine lv_sipush (v := 600) hx hb dX12_clearBank_53 (by decide) ?_
  refine lv_aload_n hx hb dX12_clearBank_56 rfl (lv_at hl 0 rfl) ?_
  refine mg_30 hx hb ht hown hK hP dX12_clearBank_57 ?_
  refine lv_imul hx hb dX12_clearBank_60 ?_
  refine lv_topi (fun v_7 ev_7 => ?_)
  have q_8 : v_7.toInt = 600 * (v 30).toInt := ow_mul ev_7 (by decide) (by omega) (by omega)
  refine mp_31 hx hb ht hown hK hP hD hS dX12_clearBank_61 (fun H locs hP hD hS => ?_)
  replace hv := MIv.up 31 hv (show 0 ≤ v_7.toInt ∧ v_7.toInt ≤ 1200 from by omega)
  refine W.widen (k := 0) (n := 0) (Nat.le_of_ble_eq_true rfl) (Nat.le_of_ble_eq_true rfl) ?_
  subst ev_7 hcd
  exact W.vret hx hb hr (fun t ht9 hW => ⟨⟨(), rfl, trivial, ⟨by rw [ht9]; exact hP, hD⟩⟩, hS.F ht9⟩) hS.2.2 dX12_clearBank_64
set_option maxHeartbeats 4000000 in
set_option maxRecDepth 100000 in
theorem m_town (l : Launch) (G : va_G) (cy : Nat → ClassId) (sz : Nat) (mo : Nat) (h : Nat → Nat) (T : Int) (v : Nat → Int32) (nm : Int64) (f : Nat → Nat → Int32) (g : Nat → Nat → Int64)   (hv : MIv T v) (hf : MIf f) (hR : RI v f) (hL : WL v f)  : Met l yX12_town (.code yX12_town cX12_town 2 (some .int) :: TBg) ({ frames := 8, cells := 0, slots := 0, locals := 512 }) (va_Pc [.ref mo] (En G cy (WMs cy mo h v nm f g) sz)) (va_Qi (fun (r : Int32) (u : (Nat → Int32) × Int64 × (Nat → Nat → Int32) × (Nat → Nat → Int64)) => MIv T u.1 ∧ MIf u.2.2.1 ∧ RI u.1 u.2.2.1 ∧ WL u.1 u.2.2.1 ∧ FV [2, 3, 4, 5, 6, 7, 8, 9, 29, 30, 31, 32, 33, 34, 37, 50] v u.1 ∧ FF [1, 11, 12, 13, 14, 15, 16, 17, 18, 19, 20, 21, 24, 25, 26, 27, 35, 36, 52] f u.2.2.1 ∧ ((-1 ≤ r.toInt ∧ r.toInt ≤ 8))) (fun u t => Ex G (va_A (WMs cy mo h v nm f g) sz) (WMs cy mo h u.1 u.2.1 u.2.2.1 u.2.2.2) t) (va_A (WMs cy mo h v nm f g) sz)) 0 0 (va_A (WMs cy mo h v nm f g) sz) := by
  refine Met.ofW (cc := cX12_town) (maxL := 2) (ret := (some .int)) (by decide) rfl ?_
  intro p e s m args below meth c s₁ B hml hv9
  obtain ⟨rfl, hsz, hP, hK, hD0, hN⟩ := hv9
  have hx := B.exec
  have hb := B.bytes
  have hr := B.returns
  have hts := atoms_spec (ws := .code yX12_town cX12_town 2 (some .int) :: TBg) B.pre
  have ht : ∀ w ∈ TBg, w.before _ s = true := fun w h => hts w (List.mem_cons_of_mem _ h)
  have hown : s.vm.findClass RX12 = some m.cls := findClass_of_methodNamed B.named
  have hlocks := B.notSynchronized
  subst hsz
  have hD := hD0.self (sz := s.heap.size)
  generalize hAe : va_A (WMs cy mo h v nm f g) s.heap.size = A at hD ⊢
  have hA : ∀ q : Nat, s.heap.size ≤ q → A q := fun q h => by rw [← hAe]; exact Or.inr h
  have hS : va_S A s.heap s.heap [] := va_S.rf
  have hl := lv_entry ([.ref mo]) (n := 2) (Nat.le_of_ble_eq_true rfl)
  rw [lg_entry_eq]
  generalize (lg_sl ([.ref mo]) ++ List.replicate (2 - (lg_sl ([.ref mo])).length) Slot.unset).toArray = ls at hl ⊢
  have hl : lv_has ls 2 [(0, .ref mo)] := hl
  have z0 : (-1 : Int32).toInt = -1 := by decide
  have z1 : (0 : Int32).toInt = 0 := by decide
  have z2 : (1 : Int32).toInt = 1 := by decide
  have z3 : (3 : Int32).toInt = 3 := by decide
  have z4 : (8 : Int32).toInt = 8 := by decide
  have z5 : (600 : Int32).toInt = 600 := by decide
  have z6 : (921 : Int32).toInt = 921 := by decide
  have hf_0 := hf
  have hV_0 : FV [2, 3, 4, 5, 6, 7, 8, 9, 29, 30, 31, 32, 33, 34, 37, 50] v v := FV.rf
  have hF_0 : FF [1, 11, 12, 13, 14, 15, 16, 17, 18, 19, 20, 21, 24, 25, 26, 27, 35, 36, 52] f f := FF.rf
  refine lv_aload_n hx hb dX12_town_0 rfl (lv_at hl 0 rfl) ?_
  refine lv_iconst (v := 0) hx hb dX12_town_1 (by decide) ?_
  refine mp_4 hx hb ht hown hK hP hD hS dX12_town_2 (fun H locs hP hD hS => ?_)
  replace hv := MIv.up 4 hv (show 0 ≤ (0 : Int32).toInt ∧ (0 : Int32).toInt ≤ 5 from by omega)
  replace hL : WL (va_up v 4 0) f := WL.upv 4 hL (by decide)
  replace hR : RI (va_up v 4 0) f := RI.upv 4 hR (by decide)
  replace hV_0 := FV.up hV_0 4 (0) (by decide)
  refine lv_aload_n hx hb dX12_town_5 rfl (lv_at hl 0 rfl) ?_
  refine lv_iconst (v := (-1)) hx hb dX12_town_6 (by decide) ?_
  refine mp_5 hx hb ht hown hK hP hD hS dX12_town_7 (fun H locs hP hD hS => ?_)
  replace hv := MIv.up 5 hv (ow_any ((-1) : Int32))
  replace hL : WL (va_up (va_up v 4 0) 5 (-1)) f := WL.upv 5 hL (by decide)
  replace hR : RI (va_up (va_up v 4 0) 5 (-1)) f := RI.upv 5 hR (by decide)
  replace hV_0 := FV.up hV_0 5 ((-1)) (by decide)
  refine lv_aload_n hx hb dX12_town_10 rfl (lv_at hl 0 rfl) ?_
  refine lv_aload_n hx hb dX12_town_11 rfl (lv_at hl 0 rfl) ?_
  refine mg_2 hx hb ht hown hK hP dX12_town_12 ?_
  refine ow_top (v 2) rfl ?_
  have q_1 : 0 ≤ (v 2).toInt ∧ (v 2).toInt ≤ 1700 := hv 2
  refine mp_3 hx hb ht hown hK hP hD hS dX12_town_15 (fun H locs hP hD hS => ?_)
  replace hv := MIv.up 3 hv (show 0 ≤ (v 2).toInt ∧ (v 2).toInt ≤ 1700 from by omega)
  replace hL : WL (va_up (va_up (va_up v 4 0) 5 (-1)) 3 (v 2)) f := WL.upv 3 hL (by decide)
  replace hR : RI (va_up (va_up (va_up v 4 0) 5 (-1)) 3 (v 2)) f := RI.upv 3 hR (by decide)
  replace hV_0 := FV.up hV_0 3 (v 2) (by decide)
  refine lv_iconst (v := 0) hx hb dX12_town_18 (by decide) ?_
  refine lv_istore_n (lv' := [(1, .int 0), (0, .ref mo)]) hx hb dX12_town_19 rfl hl (by decide) rfl (fun ls hl => ?_)
  refine W.widen (k := 0) (n := 0) (Nat.le_of_ble_eq_true rfl) (Nat.le_of_ble_eq_true rfl) ?_
  have lp_2 : ∀ (N_2 : Nat) (x1_2 : Int32) (v2 : Nat → Int32) (nm2 : Int64) (f2 : Nat → Nat → Int32) (g2 : Nat → Nat → Int64) (H : Heap) (locs : List Loc) (ls : Array Slot), MIv T v2 → MIf f2 → RI v2 f2 → WL v2 f2 → FV [] (va_up (va_up (va_up v 4 0) 5 (-1)) 3 (v 2)) v2 → FF [1] f f2 → (0 ≤ x1_2.toInt ∧ x1_2.toInt ≤ 1700) → (1700 - x1_2.toInt).toNat < N_2 → va_P G vwCl (WMs cy mo h v2 nm2 f2 g2) H → va_D A (WMs cy mo h v2 nm2 f2 g2) → va_S A s.heap H locs → lv_has ls 2 [(1, .int x1_2), (0, .ref mo)] → W p l e (headSpec (.code yX12_town cX12_town 2 (some .int) :: TBg) ({ frames := 8, cells := 0, slots := 0, locals := 512 })).room s m ([.ref mo] : List Value).toArray below meth c H locs 0 0 (MQ below (va_Qi (fun (r : Int32) (u : (Nat → Int32) × Int64 × (Nat → Nat → Int32) × (Nat → Nat → Int64)) => MIv T u.1 ∧ MIf u.2.2.1 ∧ RI u.1 u.2.2.1 ∧ WL u.1 u.2.2.1 ∧ FV [2, 3, 4, 5, 6, 7, 8, 9, 29, 30, 31, 32, 33, 34, 37, 50] v u.1 ∧ FF [1, 11, 12, 13, 14, 15, 16, 17, 18, 19, 20, 21, 24, 25, 26, 27, 35, 36, 52] f u.2.2.1 ∧ ((-1 ≤ r.toInt ∧ r.toInt ≤ 8))) (fun u t => Ex G A (WMs cy mo h u.1 u.2.1 u.2.2.1 u.2.2.2) t) A) ([.ref mo] : List Value).toArray s 0 0 A) (F0 m 20 ls []) := by
    intro N_2
    induction N_2 with
    | zero => intro x1_2 v2 nm2 f2 g2 H locs ls hv hf hR hL hV_2 hF_2 qf2_0 hm hP hD hS hl; exact absurd hm (Nat.not_lt_zero _)
    | succ N_2 ih_2 =>
      intro x1_2 v2 nm2 f2 g2 H locs ls hv hf hR hL hV_2 hF_2 qf2_0 hm hP hD hS hl
      replace hV_0 := FV.tr hV_0 hV_2 (by decide)
      replace hF_0 := FF.tr hF_0 hF_2 (by decide)
      replace hW_2 := hV_2
      replace hY_2 := hF_2
      refine lv_iload_n hx hb dX12_town_20 rfl (lv_at hl 0 rfl) ?_
      refine lv_aload_n hx hb dX12_town_21 rfl (lv_at hl 1 rfl) ?_
      refine mg_3 hx hb ht hown hK hP dX12_town_22 ?_
      refine ow_top (v 2) (hV_2 3 (by decide)) ?_
      have q_3 : 0 ≤ (v 2).toInt ∧ (v 2).toInt ≤ 1700 := by have h9 : v2 3 = (v 2) := (hV_2 3 (by decide)); rw [← h9]; exact hv 3
      refine lv_icmp_ge (tgt := 46) hx hb dX12_town_25 (by decide) (fun c_4 => ?_) (fun c_4 => ?_)
      · have q_5 : (v 2).toInt ≤ x1_2.toInt := (ow_le _ _).mp c_4
        refine lv_aload_n hx hb dX12_town_46 rfl (lv_at hl 1 rfl) ?_
        refine lv_iconst (v := 0) hx hb dX12_town_47 (by decide) ?_
        refine mp_2 hx hb ht hown hK hP hD hS dX12_town_48 (fun H locs hP hD hS => ?_)
        replace hv := MIv.up 2 hv (show 0 ≤ (0 : Int32).toInt ∧ (0 : Int32).toInt ≤ 1700 from by omega)
        replace hL : WL (va_up v2 2 0) f2 := WL.upv 2 hL (by decide)
        replace hR : RI (va_up v2 2 0) f2 := RI.upv 2 hR (by decide)
        replace hV_0 := FV.up hV_0 2 (0) (by decide)
        refine lv_aload_n hx hb dX12_town_51 rfl (lv_at hl 1 rfl) ?_
        refine lv_iconst (v := 0) hx hb dX12_town_52 (by decide) ?_
        refine mp_7 hx hb ht hown hK hP hD hS dX12_town_53 (fun H locs hP hD hS => ?_)
        replace hv := MIv.up 7 hv (show 0 ≤ (0 : Int32).toInt ∧ (0 : Int32).toInt ≤ 1701 from by omega)
        replace hL : WL (va_up (va_up v2 2 0) 7 0) f2 := WL.upv 7 hL (by decide)
        replace hR : RI (va_up (va_up v2 2 0) 7 0) f2 := RI.upv 7 hR (by decide)
        replace hV_0 := FV.up hV_0 7 (0) (by decide)
        refine lv_aload_n hx hb dX12_town_56 rfl (lv_at hl 1 rfl) ?_
        refine lv_iconst (v := 1) hx hb dX12_town_57 (by decide) ?_
        refine lv_aload_n hx hb dX12_town_58 rfl (lv_at hl 1 rfl) ?_
        refine mg_29 hx hb ht hown hK hP dX12_town_59 ?_
        refine ow_top (v 29) (hV_2 29 (by decide)) ?_
        have q_6 : 0 ≤ (v 29).toInt ∧ (v 29).toInt ≤ 1 := by have h9 : (va_up (va_up v2 2 0) 7 0) 29 = (v 29) := (hV_2 29 (by decide)); rw [← h9]; exact hv 29
        refine lv_isub hx hb dX12_town_62 ?_
        refine lv_topi (fun v_7 ev_7 => ?_)
        have q_8 : v_7.toInt = (1 : Int32).toInt - (v 29).toInt := ow_sub ev_7 (by omega) (by omega)
        refine mp_30 hx hb ht hown hK hP hD hS dX12_town_63 (fun H locs hP hD hS => ?_)
        replace hv := MIv.up 30 hv (show 0 ≤ v_7.toInt ∧ v_7.toInt ≤ 1 from by omega)
        replace hL : WL (va_up (va_up (va_up v2 2 0) 7 0) 30 v_7) f2 := WL.upv 30 hL (by decide)
        replace hR : RI (va_up (va_up (va_up v2 2 0) 7 0) 30 v_7) f2 := RI.upv 30 hR (by decide)
        replace hV_0 := FV.up hV_0 30 v_7 (by decide)
        have rb9 : 0 ≤ v_7.toInt ∧ v_7.toInt ≤ 1 := by omega
        refine lv_aload_n hx hb dX12_town_66 rfl (lv_at hl 1 rfl) ?_
        have hFc := fr_free hD hS hA
        refine va_callv (va_runV (As := []) (rest := []) ⟨hx, hb, hml, hown, ht⟩ (m_clearBank l G cy _ mo h T (va_up (va_up (va_up v2 2 0) 7 0) 30 v_7) nm2 f2 g2  (v_7) hv hf hR hL rfl (show 0 ≤ (v_7).toInt ∧ (v_7).toInt ≤ 1 from by omega)) (cwV 0 ht (gv k_312 k_313 k_314 k_61 k_311) rfl rfl rfl (by decide +kernel) ⟨Nat.le_of_ble_eq_true rfl, Nat.le_of_ble_eq_true rfl⟩) ⟨En.blind, va_recv hK hP (ci := 12) (q0 := 0) rfl rfl, fun U hU hW => ⟨rfl, En.of hU hW hP hK hD hN⟩⟩ rfl rfl hl.1 rfl (lv_room (Nat.le_of_ble_eq_true rfl)) dX12_town_67 ⟨Nat.le_of_ble_eq_true rfl, Nat.le_of_ble_eq_true rfl⟩) hS (fun q _ h => hFc q h) hFc (fun u_9 t9 H locs ht9 hvm hw hB hz1 hk1 hS => ?_)
        obtain ⟨hP1, hD1⟩ := hB
        rw [ht9] at hP1
        have wu_9 := hw
        have q_10 : (600 * v_7).toInt = 600 * v_7.toInt := ow_mul rfl (by decide) (by omega) (by omega)
        replace hv := MIv.up 31 hv (show 0 ≤ (600 * v_7).toInt ∧ (600 * v_7).toInt ≤ 1200 from by omega)
        replace hR : RI (va_up (va_up (va_up (va_up v2 2 0) 7 0) 30 v_7) 31 (600 * v_7)) f2 := RI.upv 31 hR (by decide)
        replace hL : WL (va_up (va_up (va_up (va_up v2 2 0) 7 0) 30 v_7) 31 (600 * v_7)) f2 := WL.upv 31 hL (by decide)
        replace hV_0 := FV.up hV_0 31 (600 * v_7) (by decide)
        replace hf := MIf.up 11 (i := (Int32.toNatClampNeg v_7)) hf (show (0 : Int) ≤ (0 : Int32).toInt ∧ (0 : Int32).toInt ≤ 14 from by decide)
        replace hF_0 := FF.up hF_0 11 (upd (f2 11) (Int32.toNatClampNeg v_7) 0) (by decide)
        replace hR : RI (va_up (va_up (va_up (va_up v2 2 0) 7 0) 30 v_7) 31 (600 * v_7)) (va_up f2 11 (upd (f2 11) (Int32.toNatClampNeg v_7) 0)) := RI.up 11 hR (by decide)
        replace hL : WL (va_up (va_up (va_up (va_up v2 2 0) 7 0) 30 v_7) 31 (600 * v_7)) (va_up f2 11 (upd (f2 11) (Int32.toNatClampNeg v_7) 0)) := WL.upf 11 hL (by decide)
        replace hf := MIf.up 12 (i := (Int32.toNatClampNeg v_7)) hf (show (0 : Int) ≤ (0 : Int32).toInt ∧ (0 : Int32).toInt ≤ 8 from by decide)
        replace hF_0 := FF.up hF_0 12 (upd ((va_up f2 11 (upd (f2 11) (Int32.toNatClampNeg v_7) 0)) 12) (Int32.toNatClampNeg v_7) 0) (by decide)
        have hb9 : Int32.toNatClampNeg (v2 29) ≠ Int32.toNatClampNeg v_7 := by rw [show v2 29 = (v 29) from (hV_2 29 (by decide))]; rw [ow_tn, ow_tn]; omega
        replace hR : RI (va_up (va_up (va_up (va_up v2 2 0) 7 0) 30 v_7) 31 (600 * v_7)) (va_up (va_up f2 11 (upd (f2 11) (Int32.toNatClampNeg v_7) 0)) 12 (upd ((va_up f2 11 (upd (f2 11) (Int32.toNatClampNeg v_7) 0)) 12) (Int32.toNatClampNeg v_7) 0)) := RIb.w12 hR hb9
        have hb9 : Int32.toNatClampNeg (v2 29) ≠ Int32.toNatClampNeg v_7 := by rw [show v2 29 = (v 29) from (hV_2 29 (by decide))]; rw [ow_tn, ow_tn]; omega
        replace hL : WL (va_up (va_up (va_up (va_up v2 2 0) 7 0) 30 v_7) 31 (600 * v_7)) (va_up (va_up f2 11 (upd (f2 11) (Int32.toNatClampNeg v_7) 0)) 12 (upd ((va_up f2 11 (upd (f2 11) (Int32.toNatClampNeg v_7) 0)) 12) (Int32.toNatClampNeg v_7) 0)) := WL.w12 hL hb9
        replace hf := MIf.up 13 (i := (Int32.toNatClampNeg v_7)) hf (show (0 : Int) ≤ (0 : Int32).toInt ∧ (0 : Int32).toInt ≤ 60 from by decide)
        replace hF_0 := FF.up hF_0 13 (upd ((va_up (va_up f2 11 (upd (f2 11) (Int32.toNatClampNeg v_7) 0)) 12 (upd ((va_up f2 11 (upd (f2 11) (Int32.toNatClampNeg v_7) 0)) 12) (Int32.toNatClampNeg v_7) 0)) 13) (Int32.toNatClampNeg v_7) 0) (by decide)
        replace hR : RI (va_up (va_up (va_up (va_up v2 2 0) 7 0) 30 v_7) 31 (600 * v_7)) (va_up (va_up (va_up f2 11 (upd (f2 11) (Int32.toNatClampNeg v_7) 0)) 12 (upd ((va_up f2 11 (upd (f2 11) (Int32.toNatClampNeg v_7) 0)) 12) (Int32.toNatClampNeg v_7) 0)) 13 (upd ((va_up (va_up f2 11 (upd (f2 11) (Int32.toNatClampNeg v_7) 0)) 12 (upd ((va_up f2 11 (upd (f2 11) (Int32.toNatClampNeg v_7) 0)) 12) (Int32.toNatClampNeg v_7) 0)) 13) (Int32.toNatClampNeg v_7) 0)) := RI.up 13 hR (by decide)
        replace hL : WL (va_up (va_up (va_up (va_up v2 2 0) 7 0) 30 v_7) 31 (600 * v_7)) (va_up (va_up (va_up f2 11 (upd (f2 11) (Int32.toNatClampNeg v_7) 0)) 12 (upd ((va_up f2 11 (upd (f2 11) (Int32.toNatClampNeg v_7) 0)) 12) (Int32.toNatClampNeg v_7) 0)) 13 (upd ((va_up (va_up f2 11 (upd (f2 11) (Int32.toNatClampNeg v_7) 0)) 12 (upd ((va_up f2 11 (upd (f2 11) (Int32.toNatClampNeg v_7) 0)) 12) (Int32.toNatClampNeg v_7) 0)) 13) (Int32.toNatClampNeg v_7) 0)) := WL.upf 13 hL (by decide)
        replace hf := MIf.up 14 (i := (Int32.toNatClampNeg v_7)) hf (ow_any (921 : Int32))
        replace hF_0 := FF.up hF_0 14 (upd ((va_up (va_up (va_up f2 11 (upd (f2 11) (Int32.toNatClampNeg v_7) 0)) 12 (upd ((va_up f2 11 (upd (f2 11) (Int32.toNatClampNeg v_7) 0)) 12) (Int32.toNatClampNeg v_7) 0)) 13 (upd ((va_up (va_up f2 11 (upd (f2 11) (Int32.toNatClampNeg v_7) 0)) 12 (upd ((va_up f2 11 (upd (f2 11) (Int32.toNatClampNeg v_7) 0)) 12) (Int32.toNatClampNeg v_7) 0)) 13) (Int32.toNatClampNeg v_7) 0)) 14) (Int32.toNatClampNeg v_7) 921) (by decide)
        replace hR : RI (va_up (va_up (va_up (va_up v2 2 0) 7 0) 30 v_7) 31 (600 * v_7)) (va_up (va_up (va_up (va_up f2 11 (upd (f2 11) (Int32.toNatClampNeg v_7) 0)) 12 (upd ((va_up f2 11 (upd (f2 11) (Int32.toNatClampNeg v_7) 0)) 12) (Int32.toNatClampNeg v_7) 0)) 13 (upd ((va_up (va_up f2 11 (upd (f2 11) (Int32.toNatClampNeg v_7) 0)) 12 (upd ((va_up f2 11 (upd (f2 11) (Int32.toNatClampNeg v_7) 0)) 12) (Int32.toNatClampNeg v_7) 0)) 13) (Int32.toNatClampNeg v_7) 0)) 14 (upd ((va_up (va_up (va_up f2 11 (upd (f2 11) (Int32.toNatClampNeg v_7) 0)) 12 (upd ((va_up f2 11 (upd (f2 11) (Int32.toNatClampNeg v_7) 0)) 12) (Int32.toNatClampNeg v_7) 0)) 13 (upd ((va_up (va_up f2 11 (upd (f2 11) (Int32.toNatClampNeg v_7) 0)) 12 (upd ((va_up f2 11 (upd (f2 11) (Int32.toNatClampNeg v_7) 0)) 12) (Int32.toNatClampNeg v_7) 0)) 13) (Int32.toNatClampNeg v_7) 0)) 14) (Int32.toNatClampNeg v_7) 921)) := RI.up 14 hR (by decide)
        replace hL : WL (va_up (va_up (va_up (va_up v2 2 0) 7 0) 30 v_7) 31 (600 * v_7)) (va_up (va_up (va_up (va_up f2 11 (upd (f2 11) (Int32.toNatClampNeg v_7) 0)) 12 (upd ((va_up f2 11 (upd (f2 11) (Int32.toNatClampNeg v_7) 0)) 12) (Int32.toNatClampNeg v_7) 0)) 13 (upd ((va_up (va_up f2 11 (upd (f2 11) (Int32.toNatClampNeg v_7) 0)) 12 (upd ((va_up f2 11 (upd (f2 11) (Int32.toNatClampNeg v_7) 0)) 12) (Int32.toNatClampNeg v_7) 0)) 13) (Int32.toNatClampNeg v_7) 0)) 14 (upd ((va_up (va_up (va_up f2 11 (upd (f2 11) (Int32.toNatClampNeg v_7) 0)) 12 (upd ((va_up f2 11 (upd (f2 11) (Int32.toNatClampNeg v_7) 0)) 12) (Int32.toNatClampNeg v_7) 0)) 13 (upd ((va_up (va_up f2 11 (upd (f2 11) (Int32.toNatClampNeg v_7) 0)) 12 (upd ((va_up f2 11 (upd (f2 11) (Int32.toNatClampNeg v_7) 0)) 12) (Int32.toNatClampNeg v_7) 0)) 13) (Int32.toNatClampNeg v_7) 0)) 14) (Int32.toNatClampNeg v_7) 921)) := WL.upf 14 hL (by decide)
        replace hf := MIf.up 21 (i := (Int32.toNatClampNeg v_7)) hf (ow_any (vp_nar .boolean 0))
        replace hF_0 := FF.up hF_0 21 (upd ((va_up (va_up (va_up (va_up f2 11 (upd (f2 11) (Int32.toNatClampNeg v_7) 0)) 12 (upd ((va_up f2 11 (upd (f2 11) (Int32.toNatClampNeg v_7) 0)) 12) (Int32.toNatClampNeg v_7) 0)) 13 (upd ((va_up (va_up f2 11 (upd (f2 11) (Int32.toNatClampNeg v_7) 0)) 12 (upd ((va_up f2 11 (upd (f2 11) (Int32.toNatClampNeg v_7) 0)) 12) (Int32.toNatClampNeg v_7) 0)) 13) (Int32.toNatClampNeg v_7) 0)) 14 (upd ((va_up (va_up (va_up f2 11 (upd (f2 11) (Int32.toNatClampNeg v_7) 0)) 12 (upd ((va_up f2 11 (upd (f2 11) (Int32.toNatClampNeg v_7) 0)) 12) (Int32.toNatClampNeg v_7) 0)) 13 (upd ((va_up (va_up f2 11 (upd (f2 11) (Int32.toNatClampNeg v_7) 0)) 12 (upd ((va_up f2 11 (upd (f2 11) (Int32.toNatClampNeg v_7) 0)) 12) (Int32.toNatClampNeg v_7) 0)) 13) (Int32.toNatClampNeg v_7) 0)) 14) (Int32.toNatClampNeg v_7) 921)) 21) (Int32.toNatClampNeg v_7) (vp_nar .boolean 0)) (by decide)
        replace hR : RI (va_up (va_up (va_up (va_up v2 2 0) 7 0) 30 v_7) 31 (600 * v_7)) (va_up (va_up (va_up (va_up (va_up f2 11 (upd (f2 11) (Int32.toNatClampNeg v_7) 0)) 12 (upd ((va_up f2 11 (upd (f2 11) (Int32.toNatClampNeg v_7) 0)) 12) (Int32.toNatClampNeg v_7) 0)) 13 (upd ((va_up (va_up f2 11 (upd (f2 11) (Int32.toNatClampNeg v_7) 0)) 12 (upd ((va_up f2 11 (upd (f2 11) (Int32.toNatClampNeg v_7) 0)) 12) (Int32.toNatClampNeg v_7) 0)) 13) (Int32.toNatClampNeg v_7) 0)) 14 (upd ((va_up (va_up (va_up f2 11 (upd (f2 11) (Int32.toNatClampNeg v_7) 0)) 12 (upd ((va_up f2 11 (upd (f2 11) (Int32.toNatClampNeg v_7) 0)) 12) (Int32.toNatClampNeg v_7) 0)) 13 (upd ((va_up (va_up f2 11 (upd (f2 11) (Int32.toNatClampNeg v_7) 0)) 12 (upd ((va_up f2 11 (upd (f2 11) (Int32.toNatClampNeg v_7) 0)) 12) (Int32.toNatClampNeg v_7) 0)) 13) (Int32.toNatClampNeg v_7) 0)) 14) (Int32.toNatClampNeg v_7) 921)) 21 (upd ((va_up (va_up (va_up (va_up f2 11 (upd (f2 11) (Int32.toNatClampNeg v_7) 0)) 12 (upd ((va_up f2 11 (upd (f2 11) (Int32.toNatClampNeg v_7) 0)) 12) (Int32.toNatClampNeg v_7) 0)) 13 (upd ((va_up (va_up f2 11 (upd (f2 11) (Int32.toNatClampNeg v_7) 0)) 12 (upd ((va_up f2 11 (upd (f2 11) (Int32.toNatClampNeg v_7) 0)) 12) (Int32.toNatClampNeg v_7) 0)) 13) (Int32.toNatClampNeg v_7) 0)) 14 (upd ((va_up (va_up (va_up f2 11 (upd (f2 11) (Int32.toNatClampNeg v_7) 0)) 12 (upd ((va_up f2 11 (upd (f2 11) (Int32.toNatClampNeg v_7) 0)) 12) (Int32.toNatClampNeg v_7) 0)) 13 (upd ((va_up (va_up f2 11 (upd (f2 11) (Int32.toNatClampNeg v_7) 0)) 12 (upd ((va_up f2 11 (upd (f2 11) (Int32.toNatClampNeg v_7) 0)) 12) (Int32.toNatClampNeg v_7) 0)) 13) (Int32.toNatClampNeg v_7) 0)) 14) (Int32.toNatClampNeg v_7) 921)) 21) (Int32.toNatClampNeg v_7) (vp_nar .boolean 0))) := RI.up 21 hR (by decide)
        replace hL : WL (va_up (va_up (va_up (va_up v2 2 0) 7 0) 30 v_7) 31 (600 * v_7)) (va_up (va_up (va_up (va_up (va_up f2 11 (upd (f2 11) (Int32.toNatClampNeg v_7) 0)) 12 (upd ((va_up f2 11 (upd (f2 11) (Int32.toNatClampNeg v_7) 0)) 12) (Int32.toNatClampNeg v_7) 0)) 13 (upd ((va_up (va_up f2 11 (upd (f2 11) (Int32.toNatClampNeg v_7) 0)) 12 (upd ((va_up f2 11 (upd (f2 11) (Int32.toNatClampNeg v_7) 0)) 12) (Int32.toNatClampNeg v_7) 0)) 13) (Int32.toNatClampNeg v_7) 0)) 14 (upd ((va_up (va_up (va_up f2 11 (upd (f2 11) (Int32.toNatClampNeg v_7) 0)) 12 (upd ((va_up f2 11 (upd (f2 11) (Int32.toNatClampNeg v_7) 0)) 12) (Int32.toNatClampNeg v_7) 0)) 13 (upd ((va_up (va_up f2 11 (upd (f2 11) (Int32.toNatClampNeg v_7) 0)) 12 (upd ((va_up f2 11 (upd (f2 11) (Int32.toNatClampNeg v_7) 0)) 12) (Int32.toNatClampNeg v_7) 0)) 13) (Int32.toNatClampNeg v_7) 0)) 14) (Int32.toNatClampNeg v_7) 921)) 21 (upd ((va_up (va_up (va_up (va_up f2 11 (upd (f2 11) (Int32.toNatClampNeg v_7) 0)) 12 (upd ((va_up f2 11 (upd (f2 11) (Int32.toNatClampNeg v_7) 0)) 12) (Int32.toNatClampNeg v_7) 0)) 13 (upd ((va_up (va_up f2 11 (upd (f2 11) (Int32.toNatClampNeg v_7) 0)) 12 (upd ((va_up f2 11 (upd (f2 11) (Int32.toNatClampNeg v_7) 0)) 12) (Int32.toNatClampNeg v_7) 0)) 13) (Int32.toNatClampNeg v_7) 0)) 14 (upd ((va_up (va_up (va_up f2 11 (upd (f2 11) (Int32.toNatClampNeg v_7) 0)) 12 (upd ((va_up f2 11 (upd (f2 11) (Int32.toNatClampNeg v_7) 0)) 12) (Int32.toNatClampNeg v_7) 0)) 13 (upd ((va_up (va_up f2 11 (upd (f2 11) (Int32.toNatClampNeg v_7) 0)) 12 (upd ((va_up f2 11 (upd (f2 11) (Int32.toNatClampNeg v_7) 0)) 12) (Int32.toNatClampNeg v_7) 0)) 13) (Int32.toNatClampNeg v_7) 0)) 14) (Int32.toNatClampNeg v_7) 921)) 21) (Int32.toNatClampNeg v_7) (vp_nar .boolean 0))) := WL.upf 21 hL (by decide)
        have hP : va_P G vwCl (WMs cy mo h (va_up (va_up (va_up (va_up v2 2 0) 7 0) 30 v_7) 31 (600 * v_7)) nm2 (va_up (va_up (va_up (va_up (va_up f2 11 (upd (f2 11) (Int32.toNatClampNeg v_7) 0)) 12 (upd ((va_up f2 11 (upd (f2 11) (Int32.toNatClampNeg v_7) 0)) 12) (Int32.toNatClampNeg v_7) 0)) 13 (upd ((va_up (va_up f2 11 (upd (f2 11) (Int32.toNatClampNeg v_7) 0)) 12 (upd ((va_up f2 11 (upd (f2 11) (Int32.toNatClampNeg v_7) 0)) 12) (Int32.toNatClampNeg v_7) 0)) 13) (Int32.toNatClampNeg v_7) 0)) 14 (upd ((va_up (va_up (va_up f2 11 (upd (f2 11) (Int32.toNatClampNeg v_7) 0)) 12 (upd ((va_up f2 11 (upd (f2 11) (Int32.toNatClampNeg v_7) 0)) 12) (Int32.toNatClampNeg v_7) 0)) 13 (upd ((va_up (va_up f2 11 (upd (f2 11) (Int32.toNatClampNeg v_7) 0)) 12 (upd ((va_up f2 11 (upd (f2 11) (Int32.toNatClampNeg v_7) 0)) 12) (Int32.toNatClampNeg v_7) 0)) 13) (Int32.toNatClampNeg v_7) 0)) 14) (Int32.toNatClampNeg v_7) 921)) 21 (upd ((va_up (va_up (va_up (va_up f2 11 (upd (f2 11) (Int32.toNatClampNeg v_7) 0)) 12 (upd ((va_up f2 11 (upd (f2 11) (Int32.toNatClampNeg v_7) 0)) 12) (Int32.toNatClampNeg v_7) 0)) 13 (upd ((va_up (va_up f2 11 (upd (f2 11) (Int32.toNatClampNeg v_7) 0)) 12 (upd ((va_up f2 11 (upd (f2 11) (Int32.toNatClampNeg v_7) 0)) 12) (Int32.toNatClampNeg v_7) 0)) 13) (Int32.toNatClampNeg v_7) 0)) 14 (upd ((va_up (va_up (va_up f2 11 (upd (f2 11) (Int32.toNatClampNeg v_7) 0)) 12 (upd ((va_up f2 11 (upd (f2 11) (Int32.toNatClampNeg v_7) 0)) 12) (Int32.toNatClampNeg v_7) 0)) 13 (upd ((va_up (va_up f2 11 (upd (f2 11) (Int32.toNatClampNeg v_7) 0)) 12 (upd ((va_up f2 11 (upd (f2 11) (Int32.toNatClampNeg v_7) 0)) 12) (Int32.toNatClampNeg v_7) 0)) 13) (Int32.toNatClampNeg v_7) 0)) 14) (Int32.toNatClampNeg v_7) 921)) 21) (Int32.toNatClampNeg v_7) (vp_nar .boolean 0))) g2) H := hP1
        have hD : va_D A (WMs cy mo h (va_up (va_up (va_up (va_up v2 2 0) 7 0) 30 v_7) 31 (600 * v_7)) nm2 (va_up (va_up (va_up (va_up (va_up f2 11 (upd (f2 11) (Int32.toNatClampNeg v_7) 0)) 12 (upd ((va_up f2 11 (upd (f2 11) (Int32.toNatClampNeg v_7) 0)) 12) (Int32.toNatClampNeg v_7) 0)) 13 (upd ((va_up (va_up f2 11 (upd (f2 11) (Int32.toNatClampNeg v_7) 0)) 12 (upd ((va_up f2 11 (upd (f2 11) (Int32.toNatClampNeg v_7) 0)) 12) (Int32.toNatClampNeg v_7) 0)) 13) (Int32.toNatClampNeg v_7) 0)) 14 (upd ((va_up (va_up (va_up f2 11 (upd (f2 11) (Int32.toNatClampNeg v_7) 0)) 12 (upd ((va_up f2 11 (upd (f2 11) (Int32.toNatClampNeg v_7) 0)) 12) (Int32.toNatClampNeg v_7) 0)) 13 (upd ((va_up (va_up f2 11 (upd (f2 11) (Int32.toNatClampNeg v_7) 0)) 12 (upd ((va_up f2 11 (upd (f2 11) (Int32.toNatClampNeg v_7) 0)) 12) (Int32.toNatClampNeg v_7) 0)) 13) (Int32.toNatClampNeg v_7) 0)) 14) (Int32.toNatClampNeg v_7) 921)) 21 (upd ((va_up (va_up (va_up (va_up f2 11 (upd (f2 11) (Int32.toNatClampNeg v_7) 0)) 12 (upd ((va_up f2 11 (upd (f2 11) (Int32.toNatClampNeg v_7) 0)) 12) (Int32.toNatClampNeg v_7) 0)) 13 (upd ((va_up (va_up f2 11 (upd (f2 11) (Int32.toNatClampNeg v_7) 0)) 12 (upd ((va_up f2 11 (upd (f2 11) (Int32.toNatClampNeg v_7) 0)) 12) (Int32.toNatClampNeg v_7) 0)) 13) (Int32.toNatClampNeg v_7) 0)) 14 (upd ((va_up (va_up (va_up f2 11 (upd (f2 11) (Int32.toNatClampNeg v_7) 0)) 12 (upd ((va_up f2 11 (upd (f2 11) (Int32.toNatClampNeg v_7) 0)) 12) (Int32.toNatClampNeg v_7) 0)) 13 (upd ((va_up (va_up f2 11 (upd (f2 11) (Int32.toNatClampNeg v_7) 0)) 12 (upd ((va_up f2 11 (upd (f2 11) (Int32.toNatClampNeg v_7) 0)) 12) (Int32.toNatClampNeg v_7) 0)) 13) (Int32.toNatClampNeg v_7) 0)) 14) (Int32.toNatClampNeg v_7) 921)) 21) (Int32.toNatClampNeg v_7) (vp_nar .boolean 0))) g2) := hD1.weaken (fun _ _ _ h => hFc _ h)
        clear hFc hk1 hz1 hP1 hD1 hw
        refine lv_aload_n hx hb dX12_town_70 rfl (lv_at hl 1 rfl) ?_
        have hFc := fr_free hD hS hA
        refine va_callv (va_runV (As := []) (rest := []) ⟨hx, hb, hml, hown, ht⟩ (m_goOn l G cy _ mo h T (va_up (va_up (va_up (va_up v2 2 0) 7 0) 30 v_7) 31 (600 * v_7)) nm2 (va_up (va_up (va_up (va_up (va_up f2 11 (upd (f2 11) (Int32.toNatClampNeg v_7) 0)) 12 (upd ((va_up f2 11 (upd (f2 11) (Int32.toNatClampNeg v_7) 0)) 12) (Int32.toNatClampNeg v_7) 0)) 13 (upd ((va_up (va_up f2 11 (upd (f2 11) (Int32.toNatClampNeg v_7) 0)) 12 (upd ((va_up f2 11 (upd (f2 11) (Int32.toNatClampNeg v_7) 0)) 12) (Int32.toNatClampNeg v_7) 0)) 13) (Int32.toNatClampNeg v_7) 0)) 14 (upd ((va_up (va_up (va_up f2 11 (upd (f2 11) (Int32.toNatClampNeg v_7) 0)) 12 (upd ((va_up f2 11 (upd (f2 11) (Int32.toNatClampNeg v_7) 0)) 12) (Int32.toNatClampNeg v_7) 0)) 13 (upd ((va_up (va_up f2 11 (upd (f2 11) (Int32.toNatClampNeg v_7) 0)) 12 (upd ((va_up f2 11 (upd (f2 11) (Int32.toNatClampNeg v_7) 0)) 12) (Int32.toNatClampNeg v_7) 0)) 13) (Int32.toNatClampNeg v_7) 0)) 14) (Int32.toNatClampNeg v_7) 921)) 21 (upd ((va_up (va_up (va_up (va_up f2 11 (upd (f2 11) (Int32.toNatClampNeg v_7) 0)) 12 (upd ((va_up f2 11 (upd (f2 11) (Int32.toNatClampNeg v_7) 0)) 12) (Int32.toNatClampNeg v_7) 0)) 13 (upd ((va_up (va_up f2 11 (upd (f2 11) (Int32.toNatClampNeg v_7) 0)) 12 (upd ((va_up f2 11 (upd (f2 11) (Int32.toNatClampNeg v_7) 0)) 12) (Int32.toNatClampNeg v_7) 0)) 13) (Int32.toNatClampNeg v_7) 0)) 14 (upd ((va_up (va_up (va_up f2 11 (upd (f2 11) (Int32.toNatClampNeg v_7) 0)) 12 (upd ((va_up f2 11 (upd (f2 11) (Int32.toNatClampNeg v_7) 0)) 12) (Int32.toNatClampNeg v_7) 0)) 13 (upd ((va_up (va_up f2 11 (upd (f2 11) (Int32.toNatClampNeg v_7) 0)) 12 (upd ((va_up f2 11 (upd (f2 11) (Int32.toNatClampNeg v_7) 0)) 12) (Int32.toNatClampNeg v_7) 0)) 13) (Int32.toNatClampNeg v_7) 0)) 14) (Int32.toNatClampNeg v_7) 921)) 21) (Int32.toNatClampNeg v_7) (vp_nar .boolean 0))) g2   hv hf hR hL (show (0 : Int32).toInt ≤ (v2 3).toInt from by rw [(show v2 3 = (v 2) from (hV_2 3 (by decide)))]; omega)) (cwV 0 ht (gv k_232 k_233 k_234 k_61 k_231) rfl rfl rfl (by decide +kernel) ⟨Nat.le_of_ble_eq_true rfl, Nat.le_of_ble_eq_true rfl⟩) ⟨En.blind, va_recv hK hP (ci := 12) (q0 := 0) rfl rfl, fun U hU hW => ⟨rfl, En.of hU hW hP hK hD hN⟩⟩ rfl rfl hl.1 rfl (lv_room (Nat.le_of_ble_eq_true rfl)) dX12_town_71 ⟨Nat.le_of_ble_eq_true rfl, Nat.le_of_ble_eq_true rfl⟩) hS (fun q _ h => hFc q h) hFc (fun u_11 t9 H locs ht9 hvm hw hB hz1 hk1 hS => ?_)
        obtain ⟨v11, nm11⟩ := u_11
        obtain ⟨hP1, hD1⟩ := hB
        rw [ht9] at hP1
        obtain ⟨hv, xu_11V, wu_11, xu_11_M⟩ := hw
        dsimp only at hv xu_11V wu_11 xu_11_M
        have hP : va_P G vwCl (WMs cy mo h v11 nm11 (va_up (va_up (va_up (va_up (va_up f2 11 (upd (f2 11) (Int32.toNatClampNeg v_7) 0)) 12 (upd ((va_up f2 11 (upd (f2 11) (Int32.toNatClampNeg v_7) 0)) 12) (Int32.toNatClampNeg v_7) 0)) 13 (upd ((va_up (va_up f2 11 (upd (f2 11) (Int32.toNatClampNeg v_7) 0)) 12 (upd ((va_up f2 11 (upd (f2 11) (Int32.toNatClampNeg v_7) 0)) 12) (Int32.toNatClampNeg v_7) 0)) 13) (Int32.toNatClampNeg v_7) 0)) 14 (upd ((va_up (va_up (va_up f2 11 (upd (f2 11) (Int32.toNatClampNeg v_7) 0)) 12 (upd ((va_up f2 11 (upd (f2 11) (Int32.toNatClampNeg v_7) 0)) 12) (Int32.toNatClampNeg v_7) 0)) 13 (upd ((va_up (va_up f2 11 (upd (f2 11) (Int32.toNatClampNeg v_7) 0)) 12 (upd ((va_up f2 11 (upd (f2 11) (Int32.toNatClampNeg v_7) 0)) 12) (Int32.toNatClampNeg v_7) 0)) 13) (Int32.toNatClampNeg v_7) 0)) 14) (Int32.toNatClampNeg v_7) 921)) 21 (upd ((va_up (va_up (va_up (va_up f2 11 (upd (f2 11) (Int32.toNatClampNeg v_7) 0)) 12 (upd ((va_up f2 11 (upd (f2 11) (Int32.toNatClampNeg v_7) 0)) 12) (Int32.toNatClampNeg v_7) 0)) 13 (upd ((va_up (va_up f2 11 (upd (f2 11) (Int32.toNatClampNeg v_7) 0)) 12 (upd ((va_up f2 11 (upd (f2 11) (Int32.toNatClampNeg v_7) 0)) 12) (Int32.toNatClampNeg v_7) 0)) 13) (Int32.toNatClampNeg v_7) 0)) 14 (upd ((va_up (va_up (va_up f2 11 (upd (f2 11) (Int32.toNatClampNeg v_7) 0)) 12 (upd ((va_up f2 11 (upd (f2 11) (Int32.toNatClampNeg v_7) 0)) 12) (Int32.toNatClampNeg v_7) 0)) 13 (upd ((va_up (va_up f2 11 (upd (f2 11) (Int32.toNatClampNeg v_7) 0)) 12 (upd ((va_up f2 11 (upd (f2 11) (Int32.toNatClampNeg v_7) 0)) 12) (Int32.toNatClampNeg v_7) 0)) 13) (Int32.toNatClampNeg v_7) 0)) 14) (Int32.toNatClampNeg v_7) 921)) 21) (Int32.toNatClampNeg v_7) (vp_nar .boolean 0))) g2) H := hP1
        have hD : va_D A (WMs cy mo h v11 nm11 (va_up (va_up (va_up (va_up (va_up f2 11 (upd (f2 11) (Int32.toNatClampNeg v_7) 0)) 12 (upd ((va_up f2 11 (upd (f2 11) (Int32.toNatClampNeg v_7) 0)) 12) (Int32.toNatClampNeg v_7) 0)) 13 (upd ((va_up (va_up f2 11 (upd (f2 11) (Int32.toNatClampNeg v_7) 0)) 12 (upd ((va_up f2 11 (upd (f2 11) (Int32.toNatClampNeg v_7) 0)) 12) (Int32.toNatClampNeg v_7) 0)) 13) (Int32.toNatClampNeg v_7) 0)) 14 (upd ((va_up (va_up (va_up f2 11 (upd (f2 11) (Int32.toNatClampNeg v_7) 0)) 12 (upd ((va_up f2 11 (upd (f2 11) (Int32.toNatClampNeg v_7) 0)) 12) (Int32.toNatClampNeg v_7) 0)) 13 (upd ((va_up (va_up f2 11 (upd (f2 11) (Int32.toNatClampNeg v_7) 0)) 12 (upd ((va_up f2 11 (upd (f2 11) (Int32.toNatClampNeg v_7) 0)) 12) (Int32.toNatClampNeg v_7) 0)) 13) (Int32.toNatClampNeg v_7) 0)) 14) (Int32.toNatClampNeg v_7) 921)) 21 (upd ((va_up (va_up (va_up (va_up f2 11 (upd (f2 11) (Int32.toNatClampNeg v_7) 0)) 12 (upd ((va_up f2 11 (upd (f2 11) (Int32.toNatClampNeg v_7) 0)) 12) (Int32.toNatClampNeg v_7) 0)) 13 (upd ((va_up (va_up f2 11 (upd (f2 11) (Int32.toNatClampNeg v_7) 0)) 12 (upd ((va_up f2 11 (upd (f2 11) (Int32.toNatClampNeg v_7) 0)) 12) (Int32.toNatClampNeg v_7) 0)) 13) (Int32.toNatClampNeg v_7) 0)) 14 (upd ((va_up (va_up (va_up f2 11 (upd (f2 11) (Int32.toNatClampNeg v_7) 0)) 12 (upd ((va_up f2 11 (upd (f2 11) (Int32.toNatClampNeg v_7) 0)) 12) (Int32.toNatClampNeg v_7) 0)) 13 (upd ((va_up (va_up f2 11 (upd (f2 11) (Int32.toNatClampNeg v_7) 0)) 12 (upd ((va_up f2 11 (upd (f2 11) (Int32.toNatClampNeg v_7) 0)) 12) (Int32.toNatClampNeg v_7) 0)) 13) (Int32.toNatClampNeg v_7) 0)) 14) (Int32.toNatClampNeg v_7) 921)) 21) (Int32.toNatClampNeg v_7) (vp_nar .boolean 0))) g2) := hD1.weaken (fun _ _ _ h => hFc _ h)
        replace hR : RI v11 (va_up (va_up (va_up (va_up (va_up f2 11 (upd (f2 11) (Int32.toNatClampNeg v_7) 0)) 12 (upd ((va_up f2 11 (upd (f2 11) (Int32.toNatClampNeg v_7) 0)) 12) (Int32.toNatClampNeg v_7) 0)) 13 (upd ((va_up (va_up f2 11 (upd (f2 11) (Int32.toNatClampNeg v_7) 0)) 12 (upd ((va_up f2 11 (upd (f2 11) (Int32.toNatClampNeg v_7) 0)) 12) (Int32.toNatClampNeg v_7) 0)) 13) (Int32.toNatClampNeg v_7) 0)) 14 (upd ((va_up (va_up (va_up f2 11 (upd (f2 11) (Int32.toNatClampNeg v_7) 0)) 12 (upd ((va_up f2 11 (upd (f2 11) (Int32.toNatClampNeg v_7) 0)) 12) (Int32.toNatClampNeg v_7) 0)) 13 (upd ((va_up (va_up f2 11 (upd (f2 11) (Int32.toNatClampNeg v_7) 0)) 12 (upd ((va_up f2 11 (upd (f2 11) (Int32.toNatClampNeg v_7) 0)) 12) (Int32.toNatClampNeg v_7) 0)) 13) (Int32.toNatClampNeg v_7) 0)) 14) (Int32.toNatClampNeg v_7) 921)) 21 (upd ((va_up (va_up (va_up (va_up f2 11 (upd (f2 11) (Int32.toNatClampNeg v_7) 0)) 12 (upd ((va_up f2 11 (upd (f2 11) (Int32.toNatClampNeg v_7) 0)) 12) (Int32.toNatClampNeg v_7) 0)) 13 (upd ((va_up (va_up f2 11 (upd (f2 11) (Int32.toNatClampNeg v_7) 0)) 12 (upd ((va_up f2 11 (upd (f2 11) (Int32.toNatClampNeg v_7) 0)) 12) (Int32.toNatClampNeg v_7) 0)) 13) (Int32.toNatClampNeg v_7) 0)) 14 (upd ((va_up (va_up (va_up f2 11 (upd (f2 11) (Int32.toNatClampNeg v_7) 0)) 12 (upd ((va_up f2 11 (upd (f2 11) (Int32.toNatClampNeg v_7) 0)) 12) (Int32.toNatClampNeg v_7) 0)) 13 (upd ((va_up (va_up f2 11 (upd (f2 11) (Int32.toNatClampNeg v_7) 0)) 12 (upd ((va_up f2 11 (upd (f2 11) (Int32.toNatClampNeg v_7) 0)) 12) (Int32.toNatClampNeg v_7) 0)) 13) (Int32.toNatClampNeg v_7) 0)) 14) (Int32.toNatClampNeg v_7) 921)) 21) (Int32.toNatClampNeg v_7) (vp_nar .boolean 0))) := RI.fv hR xu_11V (by decide)
        replace hL : WL v11 (va_up (va_up (va_up (va_up (va_up f2 11 (upd (f2 11) (Int32.toNatClampNeg v_7) 0)) 12 (upd ((va_up f2 11 (upd (f2 11) (Int32.toNatClampNeg v_7) 0)) 12) (Int32.toNatClampNeg v_7) 0)) 13 (upd ((va_up (va_up f2 11 (upd (f2 11) (Int32.toNatClampNeg v_7) 0)) 12 (upd ((va_up f2 11 (upd (f2 11) (Int32.toNatClampNeg v_7) 0)) 12) (Int32.toNatClampNeg v_7) 0)) 13) (Int32.toNatClampNeg v_7) 0)) 14 (upd ((va_up (va_up (va_up f2 11 (upd (f2 11) (Int32.toNatClampNeg v_7) 0)) 12 (upd ((va_up f2 11 (upd (f2 11) (Int32.toNatClampNeg v_7) 0)) 12) (Int32.toNatClampNeg v_7) 0)) 13 (upd ((va_up (va_up f2 11 (upd (f2 11) (Int32.toNatClampNeg v_7) 0)) 12 (upd ((va_up f2 11 (upd (f2 11) (Int32.toNatClampNeg v_7) 0)) 12) (Int32.toNatClampNeg v_7) 0)) 13) (Int32.toNatClampNeg v_7) 0)) 14) (Int32.toNatClampNeg v_7) 921)) 21 (upd ((va_up (va_up (va_up (va_up f2 11 (upd (f2 11) (Int32.toNatClampNeg v_7) 0)) 12 (upd ((va_up f2 11 (upd (f2 11) (Int32.toNatClampNeg v_7) 0)) 12) (Int32.toNatClampNeg v_7) 0)) 13 (upd ((va_up (va_up f2 11 (upd (f2 11) (Int32.toNatClampNeg v_7) 0)) 12 (upd ((va_up f2 11 (upd (f2 11) (Int32.toNatClampNeg v_7) 0)) 12) (Int32.toNatClampNeg v_7) 0)) 13) (Int32.toNatClampNeg v_7) 0)) 14 (upd ((va_up (va_up (va_up f2 11 (upd (f2 11) (Int32.toNatClampNeg v_7) 0)) 12 (upd ((va_up f2 11 (upd (f2 11) (Int32.toNatClampNeg v_7) 0)) 12) (Int32.toNatClampNeg v_7) 0)) 13 (upd ((va_up (va_up f2 11 (upd (f2 11) (Int32.toNatClampNeg v_7) 0)) 12 (upd ((va_up f2 11 (upd (f2 11) (Int32.toNatClampNeg v_7) 0)) 12) (Int32.toNatClampNeg v_7) 0)) 13) (Int32.toNatClampNeg v_7) 0)) 14) (Int32.toNatClampNeg v_7) 921)) 21) (Int32.toNatClampNeg v_7) (vp_nar .boolean 0))) := WL.fv hL xu_11V (by decide) (by decide)
        replace hV_0 := FV.tr hV_0 xu_11V (by decide)
        clear hFc hk1 hz1 hP1 hD1
        replace wu_11 : ((v11 7).toInt ≤ (v 2).toInt ∧ (((v11 8).toInt = 0 ∧ (v11 7).toInt = (v 2).toInt) ∨ ((v11 8).toInt ≠ 0 ∧ (0 : Int32).toInt < (v11 7).toInt))) := by
          have h9 : ((v11 7).toInt ≤ (v2 3).toInt ∧ (((v11 8).toInt = 0 ∧ (v11 7).toInt = (v2 3).toInt) ∨ ((v11 8).toInt ≠ 0 ∧ (0 : Int32).toInt < (v11 7).toInt))) := wu_11
          rw [(show v2 3 = (v 2) from (hV_2 3 (by decide)))] at h9
          exact h9
        replace xu_11_M : 0 ≤ mz (v 2).toInt (v11 7).toInt (v11 8).toInt ∧ mz (v 2).toInt (v11 7).toInt (v11 8).toInt ≤ mz (v 2).toInt (0 : Int32).toInt (v 8).toInt ∧ ((v 8).toInt = 0 ∨ mz (v 2).toInt (v11 7).toInt (v11 8).toInt < mz (v 2).toInt (0 : Int32).toInt (v 8).toInt) := by
          have h9 : 0 ≤ mz (v2 3).toInt (v11 7).toInt (v11 8).toInt ∧ mz (v2 3).toInt (v11 7).toInt (v11 8).toInt ≤ mz (v2 3).toInt (0 : Int32).toInt (v2 8).toInt ∧ ((v2 8).toInt = 0 ∨ mz (v2 3).toInt (v11 7).toInt (v11 8).toInt < mz (v2 3).toInt (0 : Int32).toInt (v2 8).toInt) := xu_11_M
          rw [(show v2 3 = (v 2) from (hV_2 3 (by decide))), (show v2 8 = (v 8) from (hV_2 8 (by decide)))] at h9
          exact h9
        refine W.widen (k := 0) (n := 0) (Nat.le_of_ble_eq_true rfl) (Nat.le_of_ble_eq_true rfl) ?_
        have lp_12 : ∀ (N_12 : Nat) (v12 : Nat → Int32) (nm12 : Int64) (f12 : Nat → Nat → Int32) (g12 : Nat → Nat → Int64) (H : Heap) (locs : List Loc) (ls : Array Slot), MIv T v12 → MIf f12 → RI v12 f12 → WL v12 f12 → FV [4, 5, 6, 7, 8, 9, 31, 32, 33] v11 v12 → FF [11, 12, 13, 14, 15, 16, 17, 18, 19, 20, 21, 24, 25, 26, 27] (va_up (va_up (va_up (va_up (va_up f2 11 (upd (f2 11) (Int32.toNatClampNeg v_7) 0)) 12 (upd ((va_up f2 11 (upd (f2 11) (Int32.toNatClampNeg v_7) 0)) 12) (Int32.toNatClampNeg v_7) 0)) 13 (upd ((va_up (va_up f2 11 (upd (f2 11) (Int32.toNatClampNeg v_7) 0)) 12 (upd ((va_up f2 11 (upd (f2 11) (Int32.toNatClampNeg v_7) 0)) 12) (Int32.toNatClampNeg v_7) 0)) 13) (Int32.toNatClampNeg v_7) 0)) 14 (upd ((va_up (va_up (va_up f2 11 (upd (f2 11) (Int32.toNatClampNeg v_7) 0)) 12 (upd ((va_up f2 11 (upd (f2 11) (Int32.toNatClampNeg v_7) 0)) 12) (Int32.toNatClampNeg v_7) 0)) 13 (upd ((va_up (va_up f2 11 (upd (f2 11) (Int32.toNatClampNeg v_7) 0)) 12 (upd ((va_up f2 11 (upd (f2 11) (Int32.toNatClampNeg v_7) 0)) 12) (Int32.toNatClampNeg v_7) 0)) 13) (Int32.toNatClampNeg v_7) 0)) 14) (Int32.toNatClampNeg v_7) 921)) 21 (upd ((va_up (va_up (va_up (va_up f2 11 (upd (f2 11) (Int32.toNatClampNeg v_7) 0)) 12 (upd ((va_up f2 11 (upd (f2 11) (Int32.toNatClampNeg v_7) 0)) 12) (Int32.toNatClampNeg v_7) 0)) 13 (upd ((va_up (va_up f2 11 (upd (f2 11) (Int32.toNatClampNeg v_7) 0)) 12 (upd ((va_up f2 11 (upd (f2 11) (Int32.toNatClampNeg v_7) 0)) 12) (Int32.toNatClampNeg v_7) 0)) 13) (Int32.toNatClampNeg v_7) 0)) 14 (upd ((va_up (va_up (va_up f2 11 (upd (f2 11) (Int32.toNatClampNeg v_7) 0)) 12 (upd ((va_up f2 11 (upd (f2 11) (Int32.toNatClampNeg v_7) 0)) 12) (Int32.toNatClampNeg v_7) 0)) 13 (upd ((va_up (va_up f2 11 (upd (f2 11) (Int32.toNatClampNeg v_7) 0)) 12 (upd ((va_up f2 11 (upd (f2 11) (Int32.toNatClampNeg v_7) 0)) 12) (Int32.toNatClampNeg v_7) 0)) 13) (Int32.toNatClampNeg v_7) 0)) 14) (Int32.toNatClampNeg v_7) 921)) 21) (Int32.toNatClampNeg v_7) (vp_nar .boolean 0))) f12 → ((v12 7).toInt ≤ (v 2).toInt ∧ 0 ≤ mz (v 2).toInt (v12 7).toInt (v12 8).toInt) → ((v12 4).toInt = 0 → PB v_7.toInt (v12 31).toInt ((f12 13) (Int32.toNatClampNeg v_7)).toInt (f12 12) (f12 19) (f12 20) (f12 24) (f12 25) (Int32.toNatClampNeg v_7)) → tkm (mz (v 2).toInt (v12 7).toInt (v12 8).toInt) (v12 4).toInt < N_12 → va_P G vwCl (WMs cy mo h v12 nm12 f12 g12) H → va_D A (WMs cy mo h v12 nm12 f12 g12) → va_S A s.heap H locs → lv_has ls 2 [(1, .int x1_2), (0, .ref mo)] → W p l e (headSpec (.code yX12_town cX12_town 2 (some .int) :: TBg) ({ frames := 8, cells := 0, slots := 0, locals := 512 })).room s m ([.ref mo] : List Value).toArray below meth c H locs 0 0 (MQ below (va_Qi (fun (r : Int32) (u : (Nat → Int32) × Int64 × (Nat → Nat → Int32) × (Nat → Nat → Int64)) => MIv T u.1 ∧ MIf u.2.2.1 ∧ RI u.1 u.2.2.1 ∧ WL u.1 u.2.2.1 ∧ FV [2, 3, 4, 5, 6, 7, 8, 9, 29, 30, 31, 32, 33, 34, 37, 50] v u.1 ∧ FF [1, 11, 12, 13, 14, 15, 16, 17, 18, 19, 20, 21, 24, 25, 26, 27, 35, 36, 52] f u.2.2.1 ∧ ((-1 ≤ r.toInt ∧ r.toInt ≤ 8))) (fun u t => Ex G A (WMs cy mo h u.1 u.2.1 u.2.2.1 u.2.2.2) t) A) ([.ref mo] : List Value).toArray s 0 0 A) (F0 m 74 ls []) := by
          intro N_12
          induction N_12 with
          | zero => intro v12 nm12 f12 g12 H locs ls hv hf hR hL hV_12 hF_12 qf12_0 qf12_1 hm hP hD hS hl; exact absurd hm (Nat.not_lt_zero _)
          | succ N_12 ih_12 =>
            intro v12 nm12 f12 g12 H locs ls hv hf hR hL hV_12 hF_12 qf12_0 qf12_1 hm hP hD hS hl
            replace hV_0 := FV.tr hV_0 hV_12 (by decide)
            replace hF_0 := FF.tr hF_0 hF_12 (by decide)
            replace hW_12 := hV_12
            replace hY_12 := hF_12
            refine lv_aload_n hx hb dX12_town_74 rfl (lv_at hl 1 rfl) ?_
            have hFc := fr_new hS hA
            refine va_calli (va_runV (As := []) (rest := []) ⟨hx, hb, hml, hown, ht⟩ (m_isGood l G cy _ mo h T v12 nm12 f12 g12   hv hf hR hL) (cwV 0 ht (gv k_224 k_225 k_226 k_61 k_223) rfl rfl rfl (by decide +kernel) ⟨Nat.le_of_ble_eq_true rfl, Nat.le_of_ble_eq_true rfl⟩) ⟨En.blind, va_recv hK hP (ci := 12) (q0 := 0) rfl rfl, fun U hU hW => ⟨rfl, En.of hU hW hP hK hD hN⟩⟩ rfl rfl hl.1 rfl (lv_room (Nat.le_of_ble_eq_true rfl)) dX12_town_75 ⟨Nat.le_of_ble_eq_true rfl, Nat.le_of_ble_eq_true rfl⟩) hS (fun q _ h => hFc q h) hFc (fun r_u_13 u_13 t9 H locs ht9 hvm hw hB hz1 hk1 hS => ?_)
            have hP := fr_keep hP hk1
            have wu_13 := hw
            clear hFc hk1 hz1 hB hw
            replace wu_13 : (r_u_13.toInt = 0 ∨ r_u_13.toInt = 1) ∧ ((r_u_13.toInt = 1 ∧ (v12 4).toInt = 0) ∨ (r_u_13.toInt = 0 ∧ (v12 4).toInt ≠ 0)) := wu_13
            refine lv_if_eq (tgt := 95) hx hb dX12_town_78 (by decide) (fun c_14 => ?_) (fun c_14 => ?_)
            · have q_15 : r_u_13.toInt = (0 : Int32).toInt := (ow_eq _ _).mp c_14
              refine lv_aload_n hx hb dX12_town_95 rfl (lv_at hl 1 rfl) ?_
              have hFc := fr_new hS hA
              refine va_calli (va_runV (As := []) (rest := []) ⟨hx, hb, hml, hown, ht⟩ (m_isGood l G cy _ mo h T v12 nm12 f12 g12   hv hf hR hL) (cwV 0 ht (gv k_224 k_225 k_226 k_61 k_223) rfl rfl rfl (by decide +kernel) ⟨Nat.le_of_ble_eq_true rfl, Nat.le_of_ble_eq_true rfl⟩) ⟨En.blind, va_recv hK hP (ci := 12) (q0 := 0) rfl rfl, fun U hU hW => ⟨rfl, En.of hU hW hP hK hD hN⟩⟩ rfl rfl hl.1 rfl (lv_room (Nat.le_of_ble_eq_true rfl)) dX12_town_96 ⟨Nat.le_of_ble_eq_true rfl, Nat.le_of_ble_eq_true rfl⟩) hS (fun q _ h => hFc q h) hFc (fun r_u_16 u_16 t9 H locs ht9 hvm hw hB hz1 hk1 hS => ?_)
              have hP := fr_keep hP hk1
              have wu_16 := hw
              clear hFc hk1 hz1 hB hw
              replace wu_16 : (r_u_16.toInt = 0 ∨ r_u_16.toInt = 1) ∧ ((r_u_16.toInt = 1 ∧ (v12 4).toInt = 0) ∨ (r_u_16.toInt = 0 ∧ (v12 4).toInt ≠ 0)) := wu_16
              refine lv_if_ne (tgt := 104) hx hb dX12_town_99 (by decide) (fun c_17 => ?_) (fun c_17 => ?_)
              · have q_18 : ¬ r_u_16.toInt = (0 : Int32).toInt := by have := (not_congr (ow_eq _ _)).mp c_17; omega
                refine lv_aload_n hx hb dX12_town_104 rfl (lv_at hl 1 rfl) ?_
                refine lv_aload_n hx hb dX12_town_105 rfl (lv_at hl 1 rfl) ?_
                refine mg_30 hx hb ht hown hK hP dX12_town_106 ?_
                refine ow_top v_7 ((hV_12 30 (by decide)).trans (xu_11V 30 (by decide))) ?_
                have q_19 : 0 ≤ v_7.toInt ∧ v_7.toInt ≤ 1 := by have h9 : v12 30 = v_7 := ((hV_12 30 (by decide)).trans (xu_11V 30 (by decide))); rw [← h9]; exact hv 30
                refine mp_29 hx hb ht hown hK hP hD hS dX12_town_109 (fun H locs hP hD hS => ?_)
                replace hv := MIv.up 29 hv (show 0 ≤ v_7.toInt ∧ v_7.toInt ≤ 1 from by omega)
                replace hR : RI (va_up v12 29 v_7) f12 := (show RIx (f12 12) (f12 19) (f12 20) (f12 24) (f12 25) (Int32.toNatClampNeg v_7) from by exact (qf12_1 (by omega)).1)
                replace hV_0 := FV.up hV_0 29 v_7 (by decide)
                refine lv_aload_n hx hb dX12_town_112 rfl (lv_at hl 1 rfl) ?_
                refine lv_iconst (v := 0) hx hb dX12_town_113 (by decide) ?_
                refine mp_50 hx hb ht hown hK hP hD hS dX12_town_114 (fun H locs hP hD hS => ?_)
                replace hv := MIv.up 50 hv (show 0 ≤ (0 : Int32).toInt ∧ (0 : Int32).toInt ≤ 30 from by omega)
                replace hL : WL (va_up (va_up v12 29 v_7) 50 0) f12 := fun k hk => absurd (show (k : Int) < (0 : Int32).toInt from hk) (by omega)
                replace hR : RI (va_up (va_up v12 29 v_7) 50 0) f12 := RI.upv 50 hR (by decide)
                replace hV_0 := FV.up hV_0 50 (0) (by decide)
                refine lv_aload_n hx hb dX12_town_117 rfl (lv_at hl 1 rfl) ?_
                refine lv_iconst (v := 0) hx hb dX12_town_118 (by decide) ?_
                refine mp_34 hx hb ht hown hK hP hD hS dX12_town_119 (fun H locs hP hD hS => ?_)
                replace hv := MIv.up 34 hv (show 0 ≤ (0 : Int32).toInt ∧ (0 : Int32).toInt ≤ 40 from by omega)
                replace hL : WL (va_up (va_up (va_up v12 29 v_7) 50 0) 34 0) f12 := WL.upv 34 hL (by decide)
                replace hR : RI (va_up (va_up (va_up v12 29 v_7) 50 0) 34 0) f12 := RI.upv 34 hR (by decide)
                replace hV_0 := FV.up hV_0 34 (0) (by decide)
                refine lv_aload_n hx hb dX12_town_122 rfl (lv_at hl 1 rfl) ?_
                refine lv_iconst (v := 0) hx hb dX12_town_123 (by decide) ?_
                refine mp_37 (by omega) hx hb ht hown hK hP hD hS dX12_town_124 (fun H locs hP hD hS => ?_)
                replace hv := MIv.up 37 hv (show 0 ≤ (0 : Int32).toInt ∧ (0 : Int32).toInt ≤ 1 from by omega)
                replace hL : WL (va_up (va_up (va_up (va_up v12 29 v_7) 50 0) 34 0) 37 0) f12 := WL.upv 37 hL (by decide)
                replace hR : RI (va_up (va_up (va_up (va_up v12 29 v_7) 50 0) 34 0) 37 0) f12 := RI.upv 37 hR (by decide)
                replace hV_0 := FV.up hV_0 37 (0) (by decide)
                refine lv_iconst (v := 0) hx hb dX12_town_127 (by decide) ?_
                refine lv_istore_n (lv' := [(1, .int 0), (0, .ref mo)]) hx hb dX12_town_128 rfl hl (by decide) rfl (fun ls hl => ?_)
                refine W.widen (k := 0) (n := 0) (Nat.le_of_ble_eq_true rfl) (Nat.le_of_ble_eq_true rfl) ?_
                have lp_20 : ∀ (N_20 : Nat) (x1_20 : Int32) (v20 : Nat → Int32) (nm20 : Int64) (f20 : Nat → Nat → Int32) (g20 : Nat → Nat → Int64) (H : Heap) (locs : List Loc) (ls : Array Slot), MIv T v20 → MIf f20 → RI v20 f20 → WL v20 f20 → FV [] (va_up (va_up (va_up (va_up v12 29 v_7) 50 0) 34 0) 37 0) v20 → FF [35, 36] f12 f20 → (0 ≤ x1_20.toInt ∧ x1_20.toInt ≤ 8) → (8 - x1_20.toInt).toNat < N_20 → va_P G vwCl (WMs cy mo h v20 nm20 f20 g20) H → va_D A (WMs cy mo h v20 nm20 f20 g20) → va_S A s.heap H locs → lv_has ls 2 [(1, .int x1_20), (0, .ref mo)] → W p l e (headSpec (.code yX12_town cX12_town 2 (some .int) :: TBg) ({ frames := 8, cells := 0, slots := 0, locals := 512 })).room s m ([.ref mo] : List Value).toArray below meth c H locs 0 0 (MQ below (va_Qi (fun (r : Int32) (u : (Nat → Int32) × Int64 × (Nat → Nat → Int32) × (Nat → Nat → Int64)) => MIv T u.1 ∧ MIf u.2.2.1 ∧ RI u.1 u.2.2.1 ∧ WL u.1 u.2.2.1 ∧ FV [2, 3, 4, 5, 6, 7, 8, 9, 29, 30, 31, 32, 33, 34, 37, 50] v u.1 ∧ FF [1, 11, 12, 13, 14, 15, 16, 17, 18, 19, 20, 21, 24, 25, 26, 27, 35, 36, 52] f u.2.2.1 ∧ ((-1 ≤ r.toInt ∧ r.toInt ≤ 8))) (fun u t => Ex G A (WMs cy mo h u.1 u.2.1 u.2.2.1 u.2.2.2) t) A) ([.ref mo] : List Value).toArray s 0 0 A) (F0 m 129 ls []) := by
                  intro N_20
                  induction N_20 with
                  | zero => intro x1_20 v20 nm20 f20 g20 H locs ls hv hf hR hL hV_20 hF_20 qf20_0 hm hP hD hS hl; exact absurd hm (Nat.not_lt_zero _)
                  | succ N_20 ih_20 =>
                    intro x1_20 v20 nm20 f20 g20 H locs ls hv hf hR hL hV_20 hF_20 qf20_0 hm hP hD hS hl
                    replace hV_0 := FV.tr hV_0 hV_20 (by decide)
                    replace hF_0 := FF.tr hF_0 hF_20 (by decide)
                    replace hW_20 := hV_20
                    replace hY_20 := hF_20
                    refine lv_iload_n hx hb dX12_town_129 rfl (lv_at hl 0 rfl) ?_
                    refine lv_bipush (v := 8) hx hb dX12_town_130 (by decide) ?_
                    refine lv_icmp_ge (tgt := 155) hx hb dX12_town_132 (by decide) (fun c_21 => ?_) (fun c_21 => ?_)
                    · have q_22 : (8 : Int32).toInt ≤ x1_20.toInt := (ow_le _ _).mp c_21
                      refine lv_iconst (v := 0) hx hb dX12_town_155 (by decide) ?_
                      refine lv_istore_n (lv' := [(1, .int 0), (0, .ref mo)]) hx hb dX12_town_156 rfl hl (by decide) rfl (fun ls hl => ?_)
                      refine W.widen (k := 0) (n := 0) (Nat.le_of_ble_eq_true rfl) (Nat.le_of_ble_eq_true rfl) ?_
                      have lp_23 : ∀ (N_23 : Nat) (x1_23 : Int32) (v23 : Nat → Int32) (nm23 : Int64) (f23 : Nat → Nat → Int32) (g23 : Nat → Nat → Int64) (H : Heap) (locs : List Loc) (ls : Array Slot), MIv T v23 → MIf f23 → RI v23 f23 → WL v23 f23 → FV [] v20 v23 → FF [52] f20 f23 → (0 ≤ x1_23.toInt ∧ x1_23.toInt ≤ 3) → (3 - x1_23.toInt).toNat < N_23 → va_P G vwCl (WMs cy mo h v23 nm23 f23 g23) H → va_D A (WMs cy mo h v23 nm23 f23 g23) → va_S A s.heap H locs → lv_has ls 2 [(1, .int x1_23), (0, .ref mo)] → W p l e (headSpec (.code yX12_town cX12_town 2 (some .int) :: TBg) ({ frames := 8, cells := 0, slots := 0, locals := 512 })).room s m ([.ref mo] : List Value).toArray below meth c H locs 0 0 (MQ below (va_Qi (fun (r : Int32) (u : (Nat → Int32) × Int64 × (Nat → Nat → Int32) × (Nat → Nat → Int64)) => MIv T u.1 ∧ MIf u.2.2.1 ∧ RI u.1 u.2.2.1 ∧ WL u.1 u.2.2.1 ∧ FV [2, 3, 4, 5, 6, 7, 8, 9, 29, 30, 31, 32, 33, 34, 37, 50] v u.1 ∧ FF [1, 11, 12, 13, 14, 15, 16, 17, 18, 19, 20, 21, 24, 25, 26, 27, 35, 36, 52] f u.2.2.1 ∧ ((-1 ≤ r.toInt ∧ r.toInt ≤ 8))) (fun u t => Ex G A (WMs cy mo h u.1 u.2.1 u.2.2.1 u.2.2.2) t) A) ([.ref mo] : List Value).toArray s 0 0 A) (F0 m 157 ls []) := by
                        intro N_23
                        induction N_23 with
                        | zero => intro x1_23 v23 nm23 f23 g23 H locs ls hv hf hR hL hV_23 hF_23 qf23_0 hm hP hD hS hl; exact absurd hm (Nat.not_lt_zero _)
                        | succ N_23 ih_23 =>
                          intro x1_23 v23 nm23 f23 g23 H locs ls hv hf hR hL hV_23 hF_23 qf23_0 hm hP hD hS hl
                          replace hV_0 := FV.tr hV_0 hV_23 (by decide)
                          replace hF_0 := FF.tr hF_0 hF_23 (by decide)
                          replace hW_23 := hV_23
                          replace hY_23 := hF_23
                          refine lv_iload_n hx hb dX12_town_157 rfl (lv_at hl 0 rfl) ?_
                          refine lv_iconst (v := 3) hx hb dX12_town_158 (by decide) ?_
                          refine lv_icmp_ge (tgt := 175) hx hb dX12_town_159 (by decide) (fun c_24 => ?_) (fun c_24 => ?_)
                          · have q_25 : (3 : Int32).toInt ≤ x1_23.toInt := (ow_le _ _).mp c_24
                            refine lv_aload_n hx hb dX12_town_175 rfl (lv_at hl 1 rfl) ?_
                            refine mg_12 hx hb ht hown hK hP dX12_town_176 ?_
                            refine lv_aload_n hx hb dX12_town_179 rfl (lv_at hl 1 rfl) ?_
                            refine mg_29 hx hb ht hown hK hP dX12_town_180 ?_
                            refine ow_top v_7 ((hV_23 29 (by decide)).trans (hV_20 29 (by decide))) ?_
                            have q_26 : 0 ≤ v_7.toInt ∧ v_7.toInt ≤ 1 := by have h9 : v23 29 = v_7 := ((hV_23 29 (by decide)).trans (hV_20 29 (by decide))); rw [← h9]; exact hv 29
                            have q_27 : vp_in v_7 2 := vp_in_iff.mpr ⟨by omega, by omega⟩
                            refine ml_12 hx hb hK hP q_27 dX12_town_183 ?_
                            refine lv_topi (fun v_28 ev_28 => ?_)
                            have q_29 : 0 ≤ v_28.toInt ∧ v_28.toInt ≤ 8 := by rw [ev_28]; exact MIf.rd 12 hf q_27
                            have q_30 : v_28.toInt = ((f12 12) (Int32.toNatClampNeg v_7)).toInt := (congrArg Int32.toInt ev_28).trans (congrArg (fun z : Nat → Int32 => (z (Int32.toNatClampNeg v_7)).toInt) (show f23 12 = (f12 12) from ((hF_23 12 (by decide)).trans (hF_20 12 (by decide)))))
                            refine W.widen (k := 0) (n := 0) (Nat.le_of_ble_eq_true rfl) (Nat.le_of_ble_eq_true rfl) ?_
                            exact W.iret (v := v_28) hx hb hr (fun t ht9 hW => ⟨⟨v_28, (v23, nm23, f23, g23), rfl, ⟨hv, hf, hR, hL, hV_0, hF_0, (by omega)⟩, ⟨by rw [ht9]; exact hP, hD⟩⟩, hS.F ht9⟩) hS.2.2 dX12_town_184
                          · have q_31 : x1_23.toInt < (3 : Int32).toInt := by have := (not_congr (ow_le _ _)).mp c_24; omega
                            refine lv_aload_n hx hb dX12_town_162 rfl (lv_at hl 1 rfl) ?_
                            refine mg_52 hx hb ht hown hK hP dX12_town_163 ?_
                            refine lv_iload_n hx hb dX12_town_166 rfl (lv_at hl 0 rfl) ?_
                            refine lv_iconst (v := (-1)) hx hb dX12_town_167 (by decide) ?_
                            have q_32 : vp_in x1_23 3 := vp_in_iff.mpr ⟨by omega, by omega⟩
                            refine ms_52 hx hb hK hP hD hS q_32 dX12_town_168 (fun H locs hP hD hS => ?_)
                            replace hf := MIf.up 52 (i := (Int32.toNatClampNeg x1_23)) hf (show (-1) ≤ ((-1) : Int32).toInt ∧ ((-1) : Int32).toInt ≤ 40 from by omega)
                            replace hF_0 := FF.up hF_0 52 (upd (f23 52) (Int32.toNatClampNeg x1_23) (-1)) (by decide)
                            replace hY_23 := FF.up hY_23 52 (upd (f23 52) (Int32.toNatClampNeg x1_23) (-1)) (by decide)
                            replace hL : WL v23 (va_up f23 52 (upd (f23 52) (Int32.toNatClampNeg x1_23) (-1))) := WL.upf 52 hL (by decide)
                            replace hR : RI v23 (va_up f23 52 (upd (f23 52) (Int32.toNatClampNeg x1_23) (-1))) := RI.up 52 hR (by decide)
                            obtain ⟨v_33, ev_33⟩ : ∃ y : Int32, y = x1_23 + 1 := ⟨_, rfl⟩
                            refine lv_iinc (v := v_33) (lv' := [(1, .int v_33), (0, .ref mo)]) hx hb dX12_town_169 hl (k := 0) rfl (by rw [ev_33]; rfl) (by decide) rfl (fun ls hl => ?_)
                            have q_34 : v_33.toInt = x1_23.toInt + 1 := by have := ow_add ev_33 (by omega) (by omega); omega
                            refine lv_goto (tgt := 157) hx hb dX12_town_172 (by decide) ?_
                            refine W.widen (k := 0) (n := 0) (Nat.le_of_ble_eq_true rfl) (Nat.le_of_ble_eq_true rfl) ?_
                            exact ih_23 v_33 v23 nm23 (va_up f23 52 (upd (f23 52) (Int32.toNatClampNeg x1_23) (-1))) g23 _ _ _ hv hf hR hL hW_23 hY_23 (by omega) (by omega) hP hD hS (lv_sub hl [0, 1] rfl)
                      exact lp_23 _ (0) v20 nm20 f20 g20 _ _ _ hv hf hR hL FV.rf FF.rf (by omega) (Nat.lt_succ_self _) hP hD hS (lv_sub hl [0, 1] rfl)
                    · have q_35 : x1_20.toInt < (8 : Int32).toInt := by have := (not_congr (ow_le _ _)).mp c_21; omega
                      refine lv_aload_n hx hb dX12_town_135 rfl (lv_at hl 1 rfl) ?_
                      refine mg_35 hx hb ht hown hK hP dX12_town_136 ?_
                      refine lv_iload_n hx hb dX12_town_139 rfl (lv_at hl 0 rfl) ?_
                      refine lv_iconst (v := 0) hx hb dX12_town_140 (by decide) ?_
                      have q_36 : vp_in x1_20 8 := vp_in_iff.mpr ⟨by omega, by omega⟩
                      refine ms_35 hx hb hK hP hD hS q_36 dX12_town_141 (fun H locs hP hD hS => ?_)
                      replace hf := MIf.up 35 (i := (Int32.toNatClampNeg x1_20)) hf (ow_nz 0)
                      replace hF_0 := FF.up hF_0 35 (upd (f20 35) (Int32.toNatClampNeg x1_20) (vp_nar .boolean 0)) (by decide)
                      replace hY_20 := FF.up hY_20 35 (upd (f20 35) (Int32.toNatClampNeg x1_20) (vp_nar .boolean 0)) (by decide)
                      replace hL : WL v20 (va_up f20 35 (upd (f20 35) (Int32.toNatClampNeg x1_20) (vp_nar .boolean 0))) := WL.upf 35 hL (by decide)
                      replace hR : RI v20 (va_up f20 35 (upd (f20 35) (Int32.toNatClampNeg x1_20) (vp_nar .boolean 0))) := RI.up 35 hR (by decide)
                      refine lv_aload_n hx hb dX12_town_142 rfl (lv_at hl 1 rfl) ?_
                      refine mg_36 hx hb ht hown hK hP dX12_town_143 ?_
                      refine lv_iload_n hx hb dX12_town_146 rfl (lv_at hl 0 rfl) ?_
                      refine lv_iconst (v := 0) hx hb dX12_town_147 (by decide) ?_
                      have q_37 : vp_in x1_20 8 := vp_in_iff.mpr ⟨by omega, by omega⟩
                      refine ms_36 hx hb hK hP hD hS q_37 dX12_town_148 (fun H locs hP hD hS => ?_)
                      replace hf := MIf.up 36 (i := (Int32.toNatClampNeg x1_20)) hf (ow_any (0 : Int32))
                      replace hF_0 := FF.up hF_0 36 (upd ((va_up f20 35 (upd (f20 35) (Int32.toNatClampNeg x1_20) (vp_nar .boolean 0))) 36) (Int32.toNatClampNeg x1_20) 0) (by decide)
                      replace hY_20 := FF.up hY_20 36 (upd ((va_up f20 35 (upd (f20 35) (Int32.toNatClampNeg x1_20) (vp_nar .boolean 0))) 36) (Int32.toNatClampNeg x1_20) 0) (by decide)
                      replace hL : WL v20 (va_up (va_up f20 35 (upd (f20 35) (Int32.toNatClampNeg x1_20) (vp_nar .boolean 0))) 36 (upd ((va_up f20 35 (upd (f20 35) (Int32.toNatClampNeg x1_20) (vp_nar .boolean 0))) 36) (Int32.toNatClampNeg x1_20) 0)) := WL.upf 36 hL (by decide)
                      replace hR : RI v20 (va_up (va_up f20 35 (upd (f20 35) (Int32.toNatClampNeg x1_20) (vp_nar .boolean 0))) 36 (upd ((va_up f20 35 (upd (f20 35) (Int32.toNatClampNeg x1_20) (vp_nar .boolean 0))) 36) (Int32.toNatClampNeg x1_20) 0)) := RI.up 36 hR (by decide)
                      obtain ⟨v_38, ev_38⟩ : ∃ y : Int32, y = x1_20 + 1 := ⟨_, rfl⟩
                      refine lv_iinc (v := v_38) (lv' := [(1, .int v_38), (0, .ref mo)]) hx hb dX12_town_149 hl (k := 0) rfl (by rw [ev_38]; rfl) (by decide) rfl (fun ls hl => ?_)
                      have q_39 : v_38.toInt = x1_20.toInt + 1 := by have := ow_add ev_38 (by omega) (by omega); omega
                      refine lv_goto (tgt := 129) hx hb dX12_town_152 (by decide) ?_
                      refine W.widen (k := 0) (n := 0) (Nat.le_of_ble_eq_true rfl) (Nat.le_of_ble_eq_true rfl) ?_
                      exact ih_20 v_38 v20 nm20 (va_up (va_up f20 35 (upd (f20 35) (Int32.toNatClampNeg x1_20) (vp_nar .boolean 0))) 36 (upd ((va_up f20 35 (upd (f20 35) (Int32.toNatClampNeg x1_20) (vp_nar .boolean 0))) 36) (Int32.toNatClampNeg x1_20) 0)) g20 _ _ _ hv hf hR hL hW_20 hY_20 (by omega) (by omega) hP hD hS (lv_sub hl [0, 1] rfl)
                exact lp_20 _ (0) (va_up (va_up (va_up (va_up v12 29 v_7) 50 0) 34 0) 37 0) nm12 f12 g12 _ _ _ hv hf hR hL FV.rf FF.rf (by omega) (Nat.lt_succ_self _) hP hD hS (lv_sub hl [0, 1] rfl)
              · have q_40 : r_u_16.toInt = (0 : Int32).toInt := (ow_eq _ _).mp c_17
                refine lv_iconst (v := (-1)) hx hb dX12_town_102 (by decide) ?_
                refine W.widen (k := 0) (n := 0) (Nat.le_of_ble_eq_true rfl) (Nat.le_of_ble_eq_true rfl) ?_
                exact W.iret (v := (-1)) hx hb hr (fun t ht9 hW => ⟨⟨(-1), (v12, nm12, f12, g12), rfl, ⟨hv, hf, hR, hL, hV_0, hF_0, (by omega)⟩, ⟨by rw [ht9]; exact hP, hD⟩⟩, hS.F ht9⟩) hS.2.2 dX12_town_103
            · have q_41 : ¬ r_u_13.toInt = (0 : Int32).toInt := by have := (not_congr (ow_eq _ _)).mp c_14; omega
              refine lv_aload_n hx hb dX12_town_81 rfl (lv_at hl 1 rfl) ?_
              refine mg_8 hx hb ht hown hK hP dX12_town_82 ?_
              refine lv_if_eq (tgt := 95) hx hb dX12_town_85 (by decide) (fun c_42 => ?_) (fun c_42 => ?_)
              · have q_43 : (v12 8).toInt = (0 : Int32).toInt := (ow_eq _ _).mp c_42
                refine lv_aload_n hx hb dX12_town_95 rfl (lv_at hl 1 rfl) ?_
                have hFc := fr_new hS hA
                refine va_calli (va_runV (As := []) (rest := []) ⟨hx, hb, hml, hown, ht⟩ (m_isGood l G cy _ mo h T v12 nm12 f12 g12   hv hf hR hL) (cwV 0 ht (gv k_224 k_225 k_226 k_61 k_223) rfl rfl rfl (by decide +kernel) ⟨Nat.le_of_ble_eq_true rfl, Nat.le_of_ble_eq_true rfl⟩) ⟨En.blind, va_recv hK hP (ci := 12) (q0 := 0) rfl rfl, fun U hU hW => ⟨rfl, En.of hU hW hP hK hD hN⟩⟩ rfl rfl hl.1 rfl (lv_room (Nat.le_of_ble_eq_true rfl)) dX12_town_96 ⟨Nat.le_of_ble_eq_true rfl, Nat.le_of_ble_eq_true rfl⟩) hS (fun q _ h => hFc q h) hFc (fun r_u_44 u_44 t9 H locs ht9 hvm hw hB hz1 hk1 hS => ?_)
                have hP := fr_keep hP hk1
                have wu_44 := hw
                clear hFc hk1 hz1 hB hw
                replace wu_44 : (r_u_44.toInt = 0 ∨ r_u_44.toInt = 1) ∧ ((r_u_44.toInt = 1 ∧ (v12 4).toInt = 0) ∨ (r_u_44.toInt = 0 ∧ (v12 4).toInt ≠ 0)) := wu_44
                refine lv_if_ne (tgt := 104) hx hb dX12_town_99 (by decide) (fun c_45 => ?_) (fun c_45 => ?_)
                · have q_46 : ¬ r_u_44.toInt = (0 : Int32).toInt := by have := (not_congr (ow_eq _ _)).mp c_45; omega
                  refine lv_aload_n hx hb dX12_town_104 rfl (lv_at hl 1 rfl) ?_
                  refine lv_aload_n hx hb dX12_town_105 rfl (lv_at hl 1 rfl) ?_
                  refine mg_30 hx hb ht hown hK hP dX12_town_106 ?_
                  refine ow_top v_7 ((hV_12 30 (by decide)).trans (xu_11V 30 (by decide))) ?_
                  have q_47 : 0 ≤ v_7.toInt ∧ v_7.toInt ≤ 1 := by have h9 : v12 30 = v_7 := ((hV_12 30 (by decide)).trans (xu_11V 30 (by decide))); rw [← h9]; exact hv 30
                  refine mp_29 hx hb ht hown hK hP hD hS dX12_town_109 (fun H locs hP hD hS => ?_)
                  replace hv := MIv.up 29 hv (show 0 ≤ v_7.toInt ∧ v_7.toInt ≤ 1 from by omega)
                  replace hR : RI (va_up v12 29 v_7) f12 := (show RIx (f12 12) (f12 19) (f12 20) (f12 24) (f12 25) (Int32.toNatClampNeg v_7) from by exact (qf12_1 (by omega)).1)
                  replace hV_0 := FV.up hV_0 29 v_7 (by decide)
                  refine lv_aload_n hx hb dX12_town_112 rfl (lv_at hl 1 rfl) ?_
                  refine lv_iconst (v := 0) hx hb dX12_town_113 (by decide) ?_
                  refine mp_50 hx hb ht hown hK hP hD hS dX12_town_114 (fun H locs hP hD hS => ?_)
                  replace hv := MIv.up 50 hv (show 0 ≤ (0 : Int32).toInt ∧ (0 : Int32).toInt ≤ 30 from by omega)
                  replace hL : WL (va_up (va_up v12 29 v_7) 50 0) f12 := fun k hk => absurd (show (k : Int) < (0 : Int32).toInt from hk) (by omega)
                  replace hR : RI (va_up (va_up v12 29 v_7) 50 0) f12 := RI.upv 50 hR (by decide)
                  replace hV_0 := FV.up hV_0 50 (0) (by decide)
                  refine lv_aload_n hx hb dX12_town_117 rfl (lv_at hl 1 rfl) ?_
                  refine lv_iconst (v := 0) hx hb dX12_town_118 (by decide) ?_
                  refine mp_34 hx hb ht hown hK hP hD hS dX12_town_119 (fun H locs hP hD hS => ?_)
                  replace hv := MIv.up 34 hv (show 0 ≤ (0 : Int32).toInt ∧ (0 : Int32).toInt ≤ 40 from by omega)
                  replace hL : WL (va_up (va_up (va_up v12 29 v_7) 50 0) 34 0) f12 := WL.upv 34 hL (by decide)
                  replace hR : RI (va_up (va_up (va_up v12 29 v_7) 50 0) 34 0) f12 := RI.upv 34 hR (by decide)
                  replace hV_0 := FV.up hV_0 34 (0) (by decide)
                  refine lv_aload_n hx hb dX12_town_122 rfl (lv_at hl 1 rfl) ?_
                  refine lv_iconst (v := 0) hx hb dX12_town_123 (by decide) ?_
                  refine mp_37 (by omega) hx hb ht hown hK hP hD hS dX12_town_124 (fun H locs hP hD hS => ?_)
                  replace hv := MIv.up 37 hv (show 0 ≤ (0 : Int32).toInt ∧ (0 : Int32).toInt ≤ 1 from by omega)
                  replace hL : WL (va_up (va_up (va_up (va_up v12 29 v_7) 50 0) 34 0) 37 0) f12 := WL.upv 37 hL (by decide)
                  replace hR : RI (va_up (va_up (va_up (va_up v12 29 v_7) 50 0) 34 0) 37 0) f12 := RI.upv 37 hR (by decide)
                  replace hV_0 := FV.up hV_0 37 (0) (by decide)
                  refine lv_iconst (v := 0) hx hb dX12_town_127 (by decide) ?_
                  refine lv_istore_n (lv' := [(1, .int 0), (0, .ref mo)]) hx hb dX12_town_128 rfl hl (by decide) rfl (fun ls hl => ?_)
                  refine W.widen (k := 0) (n := 0) (Nat.le_of_ble_eq_true rfl) (Nat.le_of_ble_eq_true rfl) ?_
                  have lp_48 : ∀ (N_48 : Nat) (x1_48 : Int32) (v48 : Nat → Int32) (nm48 : Int64) (f48 : Nat → Nat → Int32) (g48 : Nat → Nat → Int64) (H : Heap) (locs : List Loc) (ls : Array Slot), MIv T v48 → MIf f48 → RI v48 f48 → WL v48 f48 → FV [] (va_up (va_up (va_up (va_up v12 29 v_7) 50 0) 34 0) 37 0) v48 → FF [35, 36] f12 f48 → (0 ≤ x1_48.toInt ∧ x1_48.toInt ≤ 8) → (8 - x1_48.toInt).toNat < N_48 → va_P G vwCl (WMs cy mo h v48 nm48 f48 g48) H → va_D A (WMs cy mo h v48 nm48 f48 g48) → va_S A s.heap H locs → lv_has ls 2 [(1, .int x1_48), (0, .ref mo)] → W p l e (headSpec (.code yX12_town cX12_town 2 (some .int) :: TBg) ({ frames := 8, cells := 0, slots := 0, locals := 512 })).room s m ([.ref mo] : List Value).toArray below meth c H locs 0 0 (MQ below (va_Qi (fun (r : Int32) (u : (Nat → Int32) × Int64 × (Nat → Nat → Int32) × (Nat → Nat → Int64)) => MIv T u.1 ∧ MIf u.2.2.1 ∧ RI u.1 u.2.2.1 ∧ WL u.1 u.2.2.1 ∧ FV [2, 3, 4, 5, 6, 7, 8, 9, 29, 30, 31, 32, 33, 34, 37, 50] v u.1 ∧ FF [1, 11, 12, 13, 14, 15, 16, 17, 18, 19, 20, 21, 24, 25, 26, 27, 35, 36, 52] f u.2.2.1 ∧ ((-1 ≤ r.toInt ∧ r.toInt ≤ 8))) (fun u t => Ex G A (WMs cy mo h u.1 u.2.1 u.2.2.1 u.2.2.2) t) A) ([.ref mo] : List Value).toArray s 0 0 A) (F0 m 129 ls []) := by
                    intro N_48
                    induction N_48 with
                    | zero => intro x1_48 v48 nm48 f48 g48 H locs ls hv hf hR hL hV_48 hF_48 qf48_0 hm hP hD hS hl; exact absurd hm (Nat.not_lt_zero _)
                    | succ N_48 ih_48 =>
                      intro x1_48 v48 nm48 f48 g48 H locs ls hv hf hR hL hV_48 hF_48 qf48_0 hm hP hD hS hl
                      replace hV_0 := FV.tr hV_0 hV_48 (by decide)
                      replace hF_0 := FF.tr hF_0 hF_48 (by decide)
                      replace hW_48 := hV_48
                      replace hY_48 := hF_48
                      refine lv_iload_n hx hb dX12_town_129 rfl (lv_at hl 0 rfl) ?_
                      refine lv_bipush (v := 8) hx hb dX12_town_130 (by decide) ?_
                      refine lv_icmp_ge (tgt := 155) hx hb dX12_town_132 (by decide) (fun c_49 => ?_) (fun c_49 => ?_)
                      · have q_50 : (8 : Int32).toInt ≤ x1_48.toInt := (ow_le _ _).mp c_49
                        refine lv_iconst (v := 0) hx hb dX12_town_155 (by decide) ?_
                        refine lv_istore_n (lv' := [(1, .int 0), (0, .ref mo)]) hx hb dX12_town_156 rfl hl (by decide) rfl (fun ls hl => ?_)
                        refine W.widen (k := 0) (n := 0) (Nat.le_of_ble_eq_true rfl) (Nat.le_of_ble_eq_true rfl) ?_
                        have lp_51 : ∀ (N_51 : Nat) (x1_51 : Int32) (v51 : Nat → Int32) (nm51 : Int64) (f51 : Nat → Nat → Int32) (g51 : Nat → Nat → Int64) (H : Heap) (locs : List Loc) (ls : Array Slot), MIv T v51 → MIf f51 → RI v51 f51 → WL v51 f51 → FV [] v48 v51 → FF [52] f48 f51 → (0 ≤ x1_51.toInt ∧ x1_51.toInt ≤ 3) → (3 - x1_51.toInt).toNat < N_51 → va_P G vwCl (WMs cy mo h v51 nm51 f51 g51) H → va_D A (WMs cy mo h v51 nm51 f51 g51) → va_S A s.heap H locs → lv_has ls 2 [(1, .int x1_51), (0, .ref mo)] → W p l e (headSpec (.code yX12_town cX12_town 2 (some .int) :: TBg) ({ frames := 8, cells := 0, slots := 0, locals := 512 })).room s m ([.ref mo] : List Value).toArray below meth c H locs 0 0 (MQ below (va_Qi (fun (r : Int32) (u : (Nat → Int32) × Int64 × (Nat → Nat → Int32) × (Nat → Nat → Int64)) => MIv T u.1 ∧ MIf u.2.2.1 ∧ RI u.1 u.2.2.1 ∧ WL u.1 u.2.2.1 ∧ FV [2, 3, 4, 5, 6, 7, 8, 9, 29, 30, 31, 32, 33, 34, 37, 50] v u.1 ∧ FF [1, 11, 12, 13, 14, 15, 16, 17, 18, 19, 20, 21, 24, 25, 26, 27, 35, 36, 52] f u.2.2.1 ∧ ((-1 ≤ r.toInt ∧ r.toInt ≤ 8))) (fun u t => Ex G A (WMs cy mo h u.1 u.2.1 u.2.2.1 u.2.2.2) t) A) ([.ref mo] : List Value).toArray s 0 0 A) (F0 m 157 ls []) := by
                          intro N_51
                          induction N_51 with
                          | zero => intro x1_51 v51 nm51 f51 g51 H locs ls hv hf hR hL hV_51 hF_51 qf51_0 hm hP hD hS hl; exact absurd hm (Nat.not_lt_zero _)
                          | succ N_51 ih_51 =>
                            intro x1_51 v51 nm51 f51 g51 H locs ls hv hf hR hL hV_51 hF_51 qf51_0 hm hP hD hS hl
                            replace hV_0 := FV.tr hV_0 hV_51 (by decide)
                            replace hF_0 := FF.tr hF_0 hF_51 (by decide)
                            replace hW_51 := hV_51
                            replace hY_51 := hF_51
                            refine lv_iload_n hx hb dX12_town_157 rfl (lv_at hl 0 rfl) ?_
                            refine lv_iconst (v := 3) hx hb dX12_town_158 (by decide) ?_
                            refine lv_icmp_ge (tgt := 175) hx hb dX12_town_159 (by decide) (fun c_52 => ?_) (fun c_52 => ?_)
                            · have q_53 : (3 : Int32).toInt ≤ x1_51.toInt := (ow_le _ _).mp c_52
                              refine lv_aload_n hx hb dX12_town_175 rfl (lv_at hl 1 rfl) ?_
                              refine mg_12 hx hb ht hown hK hP dX12_town_176 ?_
                              refine lv_aload_n hx hb dX12_town_179 rfl (lv_at hl 1 rfl) ?_
                              refine mg_29 hx hb ht hown hK hP dX12_town_180 ?_
                              refine ow_top v_7 ((hV_51 29 (by decide)).trans (hV_48 29 (by decide))) ?_
                              have q_54 : 0 ≤ v_7.toInt ∧ v_7.toInt ≤ 1 := by have h9 : v51 29 = v_7 := ((hV_51 29 (by decide)).trans (hV_48 29 (by decide))); rw [← h9]; exact hv 29
                              have q_55 : vp_in v_7 2 := vp_in_iff.mpr ⟨by omega, by omega⟩
                              refine ml_12 hx hb hK hP q_55 dX12_town_183 ?_
                              refine lv_topi (fun v_56 ev_56 => ?_)
                              have q_57 : 0 ≤ v_56.toInt ∧ v_56.toInt ≤ 8 := by rw [ev_56]; exact MIf.rd 12 hf q_55
                              have q_58 : v_56.toInt = ((f12 12) (Int32.toNatClampNeg v_7)).toInt := (congrArg Int32.toInt ev_56).trans (congrArg (fun z : Nat → Int32 => (z (Int32.toNatClampNeg v_7)).toInt) (show f51 12 = (f12 12) from ((hF_51 12 (by decide)).trans (hF_48 12 (by decide)))))
                              refine W.widen (k := 0) (n := 0) (Nat.le_of_ble_eq_true rfl) (Nat.le_of_ble_eq_true rfl) ?_
                              exact W.iret (v := v_56) hx hb hr (fun t ht9 hW => ⟨⟨v_56, (v51, nm51, f51, g51), rfl, ⟨hv, hf, hR, hL, hV_0, hF_0, (by omega)⟩, ⟨by rw [ht9]; exact hP, hD⟩⟩, hS.F ht9⟩) hS.2.2 dX12_town_184
                            · have q_59 : x1_51.toInt < (3 : Int32).toInt := by have := (not_congr (ow_le _ _)).mp c_52; omega
                              refine lv_aload_n hx hb dX12_town_162 rfl (lv_at hl 1 rfl) ?_
                              refine mg_52 hx hb ht hown hK hP dX12_town_163 ?_
                              refine lv_iload_n hx hb dX12_town_166 rfl (lv_at hl 0 rfl) ?_
                              refine lv_iconst (v := (-1)) hx hb dX12_town_167 (by decide) ?_
                              have q_60 : vp_in x1_51 3 := vp_in_iff.mpr ⟨by omega, by omega⟩
                              refine ms_52 hx hb hK hP hD hS q_60 dX12_town_168 (fun H locs hP hD hS => ?_)
                              replace hf := MIf.up 52 (i := (Int32.toNatClampNeg x1_51)) hf (show (-1) ≤ ((-1) : Int32).toInt ∧ ((-1) : Int32).toInt ≤ 40 from by omega)
                              replace hF_0 := FF.up hF_0 52 (upd (f51 52) (Int32.toNatClampNeg x1_51) (-1)) (by decide)
                              replace hY_51 := FF.up hY_51 52 (upd (f51 52) (Int32.toNatClampNeg x1_51) (-1)) (by decide)
                              replace hL : WL v51 (va_up f51 52 (upd (f51 52) (Int32.toNatClampNeg x1_51) (-1))) := WL.upf 52 hL (by decide)
                              replace hR : RI v51 (va_up f51 52 (upd (f51 52) (Int32.toNatClampNeg x1_51) (-1))) := RI.up 52 hR (by decide)
                              obtain ⟨v_61, ev_61⟩ : ∃ y : Int32, y = x1_51 + 1 := ⟨_, rfl⟩
                              refine lv_iinc (v := v_61) (lv' := [(1, .int v_61), (0, .ref mo)]) hx hb dX12_town_169 hl (k := 0) rfl (by rw [ev_61]; rfl) (by decide) rfl (fun ls hl => ?_)
                              have q_62 : v_61.toInt = x1_51.toInt + 1 := by have := ow_add ev_61 (by omega) (by omega); omega
                              refine lv_goto (tgt := 157) hx hb dX12_town_172 (by decide) ?_
                              refine W.widen (k := 0) (n := 0) (Nat.le_of_ble_eq_true rfl) (Nat.le_of_ble_eq_true rfl) ?_
                              exact ih_51 v_61 v51 nm51 (va_up f51 52 (upd (f51 52) (Int32.toNatClampNeg x1_51) (-1))) g51 _ _ _ hv hf hR hL hW_51 hY_51 (by omega) (by omega) hP hD hS (lv_sub hl [0, 1] rfl)
                        exact lp_51 _ (0) v48 nm48 f48 g48 _ _ _ hv hf hR hL FV.rf FF.rf (by omega) (Nat.lt_succ_self _) hP hD hS (lv_sub hl [0, 1] rfl)
                      · have q_63 : x1_48.toInt < (8 : Int32).toInt := by have := (not_congr (ow_le _ _)).mp c_49; omega
                        refine lv_aload_n hx hb dX12_town_135 rfl (lv_at hl 1 rfl) ?_
                        refine mg_35 hx hb ht hown hK hP dX12_town_136 ?_
                        refine lv_iload_n hx hb dX12_town_139 rfl (lv_at hl 0 rfl) ?_
                        refine lv_iconst (v := 0) hx hb dX12_town_140 (by decide) ?_
                        have q_64 : vp_in x1_48 8 := vp_in_iff.mpr ⟨by omega, by omega⟩
                        refine ms_35 hx hb hK hP hD hS q_64 dX12_town_141 (fun H locs hP hD hS => ?_)
                        replace hf := MIf.up 35 (i := (Int32.toNatClampNeg x1_48)) hf (ow_nz 0)
                        replace hF_0 := FF.up hF_0 35 (upd (f48 35) (Int32.toNatClampNeg x1_48) (vp_nar .boolean 0)) (by decide)
                        replace hY_48 := FF.up hY_48 35 (upd (f48 35) (Int32.toNatClampNeg x1_48) (vp_nar .boolean 0)) (by decide)
                        replace hL : WL v48 (va_up f48 35 (upd (f48 35) (Int32.toNatClampNeg x1_48) (vp_nar .boolean 0))) := WL.upf 35 hL (by decide)
                        replace hR : RI v48 (va_up f48 35 (upd (f48 35) (Int32.toNatClampNeg x1_48) (vp_nar .boolean 0))) := RI.up 35 hR (by decide)
                        refine lv_aload_n hx hb dX12_town_142 rfl (lv_at hl 1 rfl) ?_
                        refine mg_36 hx hb ht hown hK hP dX12_town_143 ?_
                        refine lv_iload_n hx hb dX12_town_146 rfl (lv_at hl 0 rfl) ?_
                        refine lv_iconst (v := 0) hx hb dX12_town_147 (by decide) ?_
                        have q_65 : vp_in x1_48 8 := vp_in_iff.mpr ⟨by omega, by omega⟩
                        refine ms_36 hx hb hK hP hD hS q_65 dX12_town_148 (fun H locs hP hD hS => ?_)
                        replace hf := MIf.up 36 (i := (Int32.toNatClampNeg x1_48)) hf (ow_any (0 : Int32))
                        replace hF_0 := FF.up hF_0 36 (upd ((va_up f48 35 (upd (f48 35) (Int32.toNatClampNeg x1_48) (vp_nar .boolean 0))) 36) (Int32.toNatClampNeg x1_48) 0) (by decide)
                        replace hY_48 := FF.up hY_48 36 (upd ((va_up f48 35 (upd (f48 35) (Int32.toNatClampNeg x1_48) (vp_nar .boolean 0))) 36) (Int32.toNatClampNeg x1_48) 0) (by decide)
                        replace hL : WL v48 (va_up (va_up f48 35 (upd (f48 35) (Int32.toNatClampNeg x1_48) (vp_nar .boolean 0))) 36 (upd ((va_up f48 35 (upd (f48 35) (Int32.toNatClampNeg x1_48) (vp_nar .boolean 0))) 36) (Int32.toNatClampNeg x1_48) 0)) := WL.upf 36 hL (by decide)
                        replace hR : RI v48 (va_up (va_up f48 35 (upd (f48 35) (Int32.toNatClampNeg x1_48) (vp_nar .boolean 0))) 36 (upd ((va_up f48 35 (upd (f48 35) (Int32.toNatClampNeg x1_48) (vp_nar .boolean 0))) 36) (Int32.toNatClampNeg x1_48) 0)) := RI.up 36 hR (by decide)
                        obtain ⟨v_66, ev_66⟩ : ∃ y : Int32, y = x1_48 + 1 := ⟨_, rfl⟩
                        refine lv_iinc (v := v_66) (lv' := [(1, .int v_66), (0, .ref mo)]) hx hb dX12_town_149 hl (k := 0) rfl (by rw [ev_66]; rfl) (by decide) rfl (fun ls hl => ?_)
                        have q_67 : v_66.toInt = x1_48.toInt + 1 := by have := ow_add ev_66 (by omega) (by omega); omega
                        refine lv_goto (tgt := 129) hx hb dX12_town_152 (by decide) ?_
                        refine W.widen (k := 0) (n := 0) (Nat.le_of_ble_eq_true rfl) (Nat.le_of_ble_eq_true rfl) ?_
                        exact ih_48 v_66 v48 nm48 (va_up (va_up f48 35 (upd (f48 35) (Int32.toNatClampNeg x1_48) (vp_nar .boolean 0))) 36 (upd ((va_up f48 35 (upd (f48 35) (Int32.toNatClampNeg x1_48) (vp_nar .boolean 0))) 36) (Int32.toNatClampNeg x1_48) 0)) g48 _ _ _ hv hf hR hL hW_48 hY_48 (by omega) (by omega) hP hD hS (lv_sub hl [0, 1] rfl)
                  exact lp_48 _ (0) (va_up (va_up (va_up (va_up v12 29 v_7) 50 0) 34 0) 37 0) nm12 f12 g12 _ _ _ hv hf hR hL FV.rf FF.rf (by omega) (Nat.lt_succ_self _) hP hD hS (lv_sub hl [0, 1] rfl)
                · have q_68 : r_u_44.toInt = (0 : Int32).toInt := (ow_eq _ _).mp c_45
                  refine lv_iconst (v := (-1)) hx hb dX12_town_102 (by decide) ?_
                  refine W.widen (k := 0) (n := 0) (Nat.le_of_ble_eq_true rfl) (Nat.le_of_ble_eq_true rfl) ?_
                  exact W.iret (v := (-1)) hx hb hr (fun t ht9 hW => ⟨⟨(-1), (v12, nm12, f12, g12), rfl, ⟨hv, hf, hR, hL, hV_0, hF_0, (by omega)⟩, ⟨by rw [ht9]; exact hP, hD⟩⟩, hS.F ht9⟩) hS.2.2 dX12_town_103
              · have q_69 : ¬ (v12 8).toInt = (0 : Int32).toInt := by have := (not_congr (ow_eq _ _)).mp c_42; omega
                refine lv_aload_n hx hb dX12_town_88 rfl (lv_at hl 1 rfl) ?_
                have hFc := fr_free hD hS hA
                refine va_callv (va_runV (As := []) (rest := []) ⟨hx, hb, hml, hown, ht⟩ (m_readLine l G cy _ mo h T v12 nm12 f12 g12   hv hf hR hL (show (v12 7).toInt ≤ (v12 3).toInt from by rw [(show v12 3 = (v 2) from ((hV_12 3 (by decide)).trans ((xu_11V 3 (by decide)).trans (hV_2 3 (by decide)))))]; omega) (show (v12 30).toInt + (v12 29).toInt = 1 from by rw [(show v12 30 = v_7 from ((hV_12 30 (by decide)).trans (xu_11V 30 (by decide)))), (show v12 29 = (v 29) from ((hV_12 29 (by decide)).trans ((xu_11V 29 (by decide)).trans (hV_2 29 (by decide)))))]; omega) (show (v12 4).toInt = 0 from by omega) (show (v12 8).toInt ≠ 0 from by omega) (show PB (v12 30).toInt (v12 31).toInt ((f12 13) (Int32.toNatClampNeg (v12 30))).toInt (f12 12) (f12 19) (f12 20) (f12 24) (f12 25) (Int32.toNatClampNeg (v12 30)) from by rw [(show v12 30 = v_7 from ((hV_12 30 (by decide)).trans (xu_11V 30 (by decide))))]; exact qf12_1 (by omega))) (cwV 0 ht (gv k_316 k_317 k_318 k_61 k_315) rfl rfl rfl (by decide +kernel) ⟨Nat.le_of_ble_eq_true rfl, Nat.le_of_ble_eq_true rfl⟩) ⟨En.blind, va_recv hK hP (ci := 12) (q0 := 0) rfl rfl, fun U hU hW => ⟨rfl, En.of hU hW hP hK hD hN⟩⟩ rfl rfl hl.1 rfl (lv_room (Nat.le_of_ble_eq_true rfl)) dX12_town_89 ⟨Nat.le_of_ble_eq_true rfl, Nat.le_of_ble_eq_true rfl⟩) hS (fun q _ h => hFc q h) hFc (fun u_70 t9 H locs ht9 hvm hw hB hz1 hk1 hS => ?_)
                obtain ⟨v70, nm70, f70, g70⟩ := u_70
                obtain ⟨hP1, hD1⟩ := hB
                rw [ht9] at hP1
                obtain ⟨hv, hf, hR, hL, xu_70V, xu_70F, wu_70, xu_70_M, xu_70_P⟩ := hw
                have hP : va_P G vwCl (WMs cy mo h v70 nm70 f70 g70) H := hP1
                have hD : va_D A (WMs cy mo h v70 nm70 f70 g70) := hD1.weaken (fun _ _ _ h => hFc _ h)
                dsimp only at hv hf hR hL wu_70 xu_70V xu_70F xu_70_M xu_70_P
                clear hFc hk1 hz1 hP1 hD1
                replace hV_0 := FV.tr hV_0 xu_70V (by decide)
                replace hF_0 := FF.tr hF_0 xu_70F (by decide)
                replace hW_12 := FV.tr hW_12 xu_70V (by decide)
                replace hY_12 := FF.tr hY_12 xu_70F (by decide)
                replace wu_70 : ((v70 7).toInt ≤ (v 2).toInt) := by
                  have h9 : ((v70 7).toInt ≤ (v12 3).toInt) := wu_70
                  rw [(show v12 3 = (v 2) from ((hV_12 3 (by decide)).trans ((xu_11V 3 (by decide)).trans (hV_2 3 (by decide)))))] at h9
                  exact h9
                replace xu_70_M : 0 ≤ mz (v 2).toInt (v70 7).toInt (v70 8).toInt ∧ mz (v 2).toInt (v70 7).toInt (v70 8).toInt ≤ mz (v 2).toInt (v12 7).toInt (v12 8).toInt ∧ ((v70 4).toInt ≠ 0 ∨ mz (v 2).toInt (v70 7).toInt (v70 8).toInt < mz (v 2).toInt (v12 7).toInt (v12 8).toInt) := by
                  have h9 : 0 ≤ mz (v12 3).toInt (v70 7).toInt (v70 8).toInt ∧ mz (v12 3).toInt (v70 7).toInt (v70 8).toInt ≤ mz (v12 3).toInt (v12 7).toInt (v12 8).toInt ∧ ((v70 4).toInt ≠ 0 ∨ mz (v12 3).toInt (v70 7).toInt (v70 8).toInt < mz (v12 3).toInt (v12 7).toInt (v12 8).toInt) := xu_70_M
                  rw [(show v12 3 = (v 2) from ((hV_12 3 (by decide)).trans ((xu_11V 3 (by decide)).trans (hV_2 3 (by decide)))))] at h9
                  exact h9
                replace xu_70_P : (v70 4).toInt = 0 → PB v_7.toInt (v70 31).toInt ((f70 13) (Int32.toNatClampNeg v_7)).toInt (f70 12) (f70 19) (f70 20) (f70 24) (f70 25) (Int32.toNatClampNeg v_7) := by
                  have h9 : (v70 4).toInt = 0 → PB (v12 30).toInt (v70 31).toInt ((f70 13) (Int32.toNatClampNeg (v12 30))).toInt (f70 12) (f70 19) (f70 20) (f70 24) (f70 25) (Int32.toNatClampNeg (v12 30)) := xu_70_P
                  rw [(show v12 30 = v_7 from ((hV_12 30 (by decide)).trans (xu_11V 30 (by decide))))] at h9
                  exact h9
                refine lv_goto (tgt := 74) hx hb dX12_town_92 (by decide) ?_
                refine W.widen (k := 0) (n := 0) (Nat.le_of_ble_eq_true rfl) (Nat.le_of_ble_eq_true rfl) ?_
                exact ih_12 v70 nm70 f70 g70 _ _ _ hv hf hR hL hW_12 hY_12 (show (v70 7).toInt ≤ (v 2).toInt ∧ 0 ≤ mz (v 2).toInt (v70 7).toInt (v70 8).toInt from by omega) (show (v70 4).toInt = 0 → PB v_7.toInt (v70 31).toInt ((f70 13) (Int32.toNatClampNeg v_7)).toInt (f70 12) (f70 19) (f70 20) (f70 24) (f70 25) (Int32.toNatClampNeg v_7) from by exact xu_70_P) (show tkm (mz (v 2).toInt (v70 7).toInt (v70 8).toInt) (v70 4).toInt < N_12 from by have h9 : tkm (mz (v 2).toInt (v70 7).toInt (v70 8).toInt) (v70 4).toInt < tkm (mz (v 2).toInt (v12 7).toInt (v12 8).toInt) (v12 4).toInt := tkm_lt (by omega) (by omega); omega) hP hD hS (lv_sub hl [0, 1] rfl)
        exact lp_12 _ v11 nm11 (va_up (va_up (va_up (va_up (va_up f2 11 (upd (f2 11) (Int32.toNatClampNeg v_7) 0)) 12 (upd ((va_up f2 11 (upd (f2 11) (Int32.toNatClampNeg v_7) 0)) 12) (Int32.toNatClampNeg v_7) 0)) 13 (upd ((va_up (va_up f2 11 (upd (f2 11) (Int32.toNatClampNeg v_7) 0)) 12 (upd ((va_up f2 11 (upd (f2 11) (Int32.toNatClampNeg v_7) 0)) 12) (Int32.toNatClampNeg v_7) 0)) 13) (Int32.toNatClampNeg v_7) 0)) 14 (upd ((va_up (va_up (va_up f2 11 (upd (f2 11) (Int32.toNatClampNeg v_7) 0)) 12 (upd ((va_up f2 11 (upd (f2 11) (Int32.toNatClampNeg v_7) 0)) 12) (Int32.toNatClampNeg v_7) 0)) 13 (upd ((va_up (va_up f2 11 (upd (f2 11) (Int32.toNatClampNeg v_7) 0)) 12 (upd ((va_up f2 11 (upd (f2 11) (Int32.toNatClampNeg v_7) 0)) 12) (Int32.toNatClampNeg v_7) 0)) 13) (Int32.toNatClampNeg v_7) 0)) 14) (Int32.toNatClampNeg v_7) 921)) 21 (upd ((va_up (va_up (va_up (va_up f2 11 (upd (f2 11) (Int32.toNatClampNeg v_7) 0)) 12 (upd ((va_up f2 11 (upd (f2 11) (Int32.toNatClampNeg v_7) 0)) 12) (Int32.toNatClampNeg v_7) 0)) 13 (upd ((va_up (va_up f2 11 (upd (f2 11) (Int32.toNatClampNeg v_7) 0)) 12 (upd ((va_up f2 11 (upd (f2 11) (Int32.toNatClampNeg v_7) 0)) 12) (Int32.toNatClampNeg v_7) 0)) 13) (Int32.toNatClampNeg v_7) 0)) 14 (upd ((va_up (va_up (va_up f2 11 (upd (f2 11) (Int32.toNatClampNeg v_7) 0)) 12 (upd ((va_up f2 11 (upd (f2 11) (Int32.toNatClampNeg v_7) 0)) 12) (Int32.toNatClampNeg v_7) 0)) 13 (upd ((va_up (va_up f2 11 (upd (f2 11) (Int32.toNatClampNeg v_7) 0)) 12 (upd ((va_up f2 11 (upd (f2 11) (Int32.toNatClampNeg v_7) 0)) 12) (Int32.toNatClampNeg v_7) 0)) 13) (Int32.toNatClampNeg v_7) 0)) 14) (Int32.toNatClampNeg v_7) 921)) 21) (Int32.toNatClampNeg v_7) (vp_nar .boolean 0))) g2 _ _ _ hv hf hR hL FV.rf FF.rf (show (v11 7).toInt ≤ (v 2).toInt ∧ 0 ≤ mz (v 2).toInt (v11 7).toInt (v11 8).toInt from by omega) (show (v11 4).toInt = 0 → PB v_7.toInt (v11 31).toInt (((va_up (va_up (va_up (va_up (va_up f2 11 (upd (f2 11) (Int32.toNatClampNeg v_7) 0)) 12 (upd ((va_up f2 11 (upd (f2 11) (Int32.toNatClampNeg v_7) 0)) 12) (Int32.toNatClampNeg v_7) 0)) 13 (upd ((va_up (va_up f2 11 (upd (f2 11) (Int32.toNatClampNeg v_7) 0)) 12 (upd ((va_up f2 11 (upd (f2 11) (Int32.toNatClampNeg v_7) 0)) 12) (Int32.toNatClampNeg v_7) 0)) 13) (Int32.toNatClampNeg v_7) 0)) 14 (upd ((va_up (va_up (va_up f2 11 (upd (f2 11) (Int32.toNatClampNeg v_7) 0)) 12 (upd ((va_up f2 11 (upd (f2 11) (Int32.toNatClampNeg v_7) 0)) 12) (Int32.toNatClampNeg v_7) 0)) 13 (upd ((va_up (va_up f2 11 (upd (f2 11) (Int32.toNatClampNeg v_7) 0)) 12 (upd ((va_up f2 11 (upd (f2 11) (Int32.toNatClampNeg v_7) 0)) 12) (Int32.toNatClampNeg v_7) 0)) 13) (Int32.toNatClampNeg v_7) 0)) 14) (Int32.toNatClampNeg v_7) 921)) 21 (upd ((va_up (va_up (va_up (va_up f2 11 (upd (f2 11) (Int32.toNatClampNeg v_7) 0)) 12 (upd ((va_up f2 11 (upd (f2 11) (Int32.toNatClampNeg v_7) 0)) 12) (Int32.toNatClampNeg v_7) 0)) 13 (upd ((va_up (va_up f2 11 (upd (f2 11) (Int32.toNatClampNeg v_7) 0)) 12 (upd ((va_up f2 11 (upd (f2 11) (Int32.toNatClampNeg v_7) 0)) 12) (Int32.toNatClampNeg v_7) 0)) 13) (Int32.toNatClampNeg v_7) 0)) 14 (upd ((va_up (va_up (va_up f2 11 (upd (f2 11) (Int32.toNatClampNeg v_7) 0)) 12 (upd ((va_up f2 11 (upd (f2 11) (Int32.toNatClampNeg v_7) 0)) 12) (Int32.toNatClampNeg v_7) 0)) 13 (upd ((va_up (va_up f2 11 (upd (f2 11) (Int32.toNatClampNeg v_7) 0)) 12 (upd ((va_up f2 11 (upd (f2 11) (Int32.toNatClampNeg v_7) 0)) 12) (Int32.toNatClampNeg v_7) 0)) 13) (Int32.toNatClampNeg v_7) 0)) 14) (Int32.toNatClampNeg v_7) 921)) 21) (Int32.toNatClampNeg v_7) (vp_nar .boolean 0))) 13) (Int32.toNatClampNeg v_7)).toInt ((va_up (va_up (va_up (va_up (va_up f2 11 (upd (f2 11) (Int32.toNatClampNeg v_7) 0)) 12 (upd ((va_up f2 11 (upd (f2 11) (Int32.toNatClampNeg v_7) 0)) 12) (Int32.toNatClampNeg v_7) 0)) 13 (upd ((va_up (va_up f2 11 (upd (f2 11) (Int32.toNatClampNeg v_7) 0)) 12 (upd ((va_up f2 11 (upd (f2 11) (Int32.toNatClampNeg v_7) 0)) 12) (Int32.toNatClampNeg v_7) 0)) 13) (Int32.toNatClampNeg v_7) 0)) 14 (upd ((va_up (va_up (va_up f2 11 (upd (f2 11) (Int32.toNatClampNeg v_7) 0)) 12 (upd ((va_up f2 11 (upd (f2 11) (Int32.toNatClampNeg v_7) 0)) 12) (Int32.toNatClampNeg v_7) 0)) 13 (upd ((va_up (va_up f2 11 (upd (f2 11) (Int32.toNatClampNeg v_7) 0)) 12 (upd ((va_up f2 11 (upd (f2 11) (Int32.toNatClampNeg v_7) 0)) 12) (Int32.toNatClampNeg v_7) 0)) 13) (Int32.toNatClampNeg v_7) 0)) 14) (Int32.toNatClampNeg v_7) 921)) 21 (upd ((va_up (va_up (va_up (va_up f2 11 (upd (f2 11) (Int32.toNatClampNeg v_7) 0)) 12 (upd ((va_up f2 11 (upd (f2 11) (Int32.toNatClampNeg v_7) 0)) 12) (Int32.toNatClampNeg v_7) 0)) 13 (upd ((va_up (va_up f2 11 (upd (f2 11) (Int32.toNatClampNeg v_7) 0)) 12 (upd ((va_up f2 11 (upd (f2 11) (Int32.toNatClampNeg v_7) 0)) 12) (Int32.toNatClampNeg v_7) 0)) 13) (Int32.toNatClampNeg v_7) 0)) 14 (upd ((va_up (va_up (va_up f2 11 (upd (f2 11) (Int32.toNatClampNeg v_7) 0)) 12 (upd ((va_up f2 11 (upd (f2 11) (Int32.toNatClampNeg v_7) 0)) 12) (Int32.toNatClampNeg v_7) 0)) 13 (upd ((va_up (va_up f2 11 (upd (f2 11) (Int32.toNatClampNeg v_7) 0)) 12 (upd ((va_up f2 11 (upd (f2 11) (Int32.toNatClampNeg v_7) 0)) 12) (Int32.toNatClampNeg v_7) 0)) 13) (Int32.toNatClampNeg v_7) 0)) 14) (Int32.toNatClampNeg v_7) 921)) 21) (Int32.toNatClampNeg v_7) (vp_nar .boolean 0))) 12) ((va_up (va_up (va_up (va_up (va_up f2 11 (upd (f2 11) (Int32.toNatClampNeg v_7) 0)) 12 (upd ((va_up f2 11 (upd (f2 11) (Int32.toNatClampNeg v_7) 0)) 12) (Int32.toNatClampNeg v_7) 0)) 13 (upd ((va_up (va_up f2 11 (upd (f2 11) (Int32.toNatClampNeg v_7) 0)) 12 (upd ((va_up f2 11 (upd (f2 11) (Int32.toNatClampNeg v_7) 0)) 12) (Int32.toNatClampNeg v_7) 0)) 13) (Int32.toNatClampNeg v_7) 0)) 14 (upd ((va_up (va_up (va_up f2 11 (upd (f2 11) (Int32.toNatClampNeg v_7) 0)) 12 (upd ((va_up f2 11 (upd (f2 11) (Int32.toNatClampNeg v_7) 0)) 12) (Int32.toNatClampNeg v_7) 0)) 13 (upd ((va_up (va_up f2 11 (upd (f2 11) (Int32.toNatClampNeg v_7) 0)) 12 (upd ((va_up f2 11 (upd (f2 11) (Int32.toNatClampNeg v_7) 0)) 12) (Int32.toNatClampNeg v_7) 0)) 13) (Int32.toNatClampNeg v_7) 0)) 14) (Int32.toNatClampNeg v_7) 921)) 21 (upd ((va_up (va_up (va_up (va_up f2 11 (upd (f2 11) (Int32.toNatClampNeg v_7) 0)) 12 (upd ((va_up f2 11 (upd (f2 11) (Int32.toNatClampNeg v_7) 0)) 12) (Int32.toNatClampNeg v_7) 0)) 13 (upd ((va_up (va_up f2 11 (upd (f2 11) (Int32.toNatClampNeg v_7) 0)) 12 (upd ((va_up f2 11 (upd (f2 11) (Int32.toNatClampNeg v_7) 0)) 12) (Int32.toNatClampNeg v_7) 0)) 13) (Int32.toNatClampNeg v_7) 0)) 14 (upd ((va_up (va_up (va_up f2 11 (upd (f2 11) (Int32.toNatClampNeg v_7) 0)) 12 (upd ((va_up f2 11 (upd (f2 11) (Int32.toNatClampNeg v_7) 0)) 12) (Int32.toNatClampNeg v_7) 0)) 13 (upd ((va_up (va_up f2 11 (upd (f2 11) (Int32.toNatClampNeg v_7) 0)) 12 (upd ((va_up f2 11 (upd (f2 11) (Int32.toNatClampNeg v_7) 0)) 12) (Int32.toNatClampNeg v_7) 0)) 13) (Int32.toNatClampNeg v_7) 0)) 14) (Int32.toNatClampNeg v_7) 921)) 21) (Int32.toNatClampNeg v_7) (vp_nar .boolean 0))) 19) ((va_up (va_up (va_up (va_up (va_up f2 11 (upd (f2 11) (Int32.toNatClampNeg v_7) 0)) 12 (upd ((va_up f2 11 (upd (f2 11) (Int32.toNatClampNeg v_7) 0)) 12) (Int32.toNatClampNeg v_7) 0)) 13 (upd ((va_up (va_up f2 11 (upd (f2 11) (Int32.toNatClampNeg v_7) 0)) 12 (upd ((va_up f2 11 (upd (f2 11) (Int32.toNatClampNeg v_7) 0)) 12) (Int32.toNatClampNeg v_7) 0)) 13) (Int32.toNatClampNeg v_7) 0)) 14 (upd ((va_up (va_up (va_up f2 11 (upd (f2 11) (Int32.toNatClampNeg v_7) 0)) 12 (upd ((va_up f2 11 (upd (f2 11) (Int32.toNatClampNeg v_7) 0)) 12) (Int32.toNatClampNeg v_7) 0)) 13 (upd ((va_up (va_up f2 11 (upd (f2 11) (Int32.toNatClampNeg v_7) 0)) 12 (upd ((va_up f2 11 (upd (f2 11) (Int32.toNatClampNeg v_7) 0)) 12) (Int32.toNatClampNeg v_7) 0)) 13) (Int32.toNatClampNeg v_7) 0)) 14) (Int32.toNatClampNeg v_7) 921)) 21 (upd ((va_up (va_up (va_up (va_up f2 11 (upd (f2 11) (Int32.toNatClampNeg v_7) 0)) 12 (upd ((va_up f2 11 (upd (f2 11) (Int32.toNatClampNeg v_7) 0)) 12) (Int32.toNatClampNeg v_7) 0)) 13 (upd ((va_up (va_up f2 11 (upd (f2 11) (Int32.toNatClampNeg v_7) 0)) 12 (upd ((va_up f2 11 (upd (f2 11) (Int32.toNatClampNeg v_7) 0)) 12) (Int32.toNatClampNeg v_7) 0)) 13) (Int32.toNatClampNeg v_7) 0)) 14 (upd ((va_up (va_up (va_up f2 11 (upd (f2 11) (Int32.toNatClampNeg v_7) 0)) 12 (upd ((va_up f2 11 (upd (f2 11) (Int32.toNatClampNeg v_7) 0)) 12) (Int32.toNatClampNeg v_7) 0)) 13 (upd ((va_up (va_up f2 11 (upd (f2 11) (Int32.toNatClampNeg v_7) 0)) 12 (upd ((va_up f2 11 (upd (f2 11) (Int32.toNatClampNeg v_7) 0)) 12) (Int32.toNatClampNeg v_7) 0)) 13) (Int32.toNatClampNeg v_7) 0)) 14) (Int32.toNatClampNeg v_7) 921)) 21) (Int32.toNatClampNeg v_7) (vp_nar .boolean 0))) 20) ((va_up (va_up (va_up (va_up (va_up f2 11 (upd (f2 11) (Int32.toNatClampNeg v_7) 0)) 12 (upd ((va_up f2 11 (upd (f2 11) (Int32.toNatClampNeg v_7) 0)) 12) (Int32.toNatClampNeg v_7) 0)) 13 (upd ((va_up (va_up f2 11 (upd (f2 11) (Int32.toNatClampNeg v_7) 0)) 12 (upd ((va_up f2 11 (upd (f2 11) (Int32.toNatClampNeg v_7) 0)) 12) (Int32.toNatClampNeg v_7) 0)) 13) (Int32.toNatClampNeg v_7) 0)) 14 (upd ((va_up (va_up (va_up f2 11 (upd (f2 11) (Int32.toNatClampNeg v_7) 0)) 12 (upd ((va_up f2 11 (upd (f2 11) (Int32.toNatClampNeg v_7) 0)) 12) (Int32.toNatClampNeg v_7) 0)) 13 (upd ((va_up (va_up f2 11 (upd (f2 11) (Int32.toNatClampNeg v_7) 0)) 12 (upd ((va_up f2 11 (upd (f2 11) (Int32.toNatClampNeg v_7) 0)) 12) (Int32.toNatClampNeg v_7) 0)) 13) (Int32.toNatClampNeg v_7) 0)) 14) (Int32.toNatClampNeg v_7) 921)) 21 (upd ((va_up (va_up (va_up (va_up f2 11 (upd (f2 11) (Int32.toNatClampNeg v_7) 0)) 12 (upd ((va_up f2 11 (upd (f2 11) (Int32.toNatClampNeg v_7) 0)) 12) (Int32.toNatClampNeg v_7) 0)) 13 (upd ((va_up (va_up f2 11 (upd (f2 11) (Int32.toNatClampNeg v_7) 0)) 12 (upd ((va_up f2 11 (upd (f2 11) (Int32.toNatClampNeg v_7) 0)) 12) (Int32.toNatClampNeg v_7) 0)) 13) (Int32.toNatClampNeg v_7) 0)) 14 (upd ((va_up (va_up (va_up f2 11 (upd (f2 11) (Int32.toNatClampNeg v_7) 0)) 12 (upd ((va_up f2 11 (upd (f2 11) (Int32.toNatClampNeg v_7) 0)) 12) (Int32.toNatClampNeg v_7) 0)) 13 (upd ((va_up (va_up f2 11 (upd (f2 11) (Int32.toNatClampNeg v_7) 0)) 12 (upd ((va_up f2 11 (upd (f2 11) (Int32.toNatClampNeg v_7) 0)) 12) (Int32.toNatClampNeg v_7) 0)) 13) (Int32.toNatClampNeg v_7) 0)) 14) (Int32.toNatClampNeg v_7) 921)) 21) (Int32.toNatClampNeg v_7) (vp_nar .boolean 0))) 24) ((va_up (va_up (va_up (va_up (va_up f2 11 (upd (f2 11) (Int32.toNatClampNeg v_7) 0)) 12 (upd ((va_up f2 11 (upd (f2 11) (Int32.toNatClampNeg v_7) 0)) 12) (Int32.toNatClampNeg v_7) 0)) 13 (upd ((va_up (va_up f2 11 (upd (f2 11) (Int32.toNatClampNeg v_7) 0)) 12 (upd ((va_up f2 11 (upd (f2 11) (Int32.toNatClampNeg v_7) 0)) 12) (Int32.toNatClampNeg v_7) 0)) 13) (Int32.toNatClampNeg v_7) 0)) 14 (upd ((va_up (va_up (va_up f2 11 (upd (f2 11) (Int32.toNatClampNeg v_7) 0)) 12 (upd ((va_up f2 11 (upd (f2 11) (Int32.toNatClampNeg v_7) 0)) 12) (Int32.toNatClampNeg v_7) 0)) 13 (upd ((va_up (va_up f2 11 (upd (f2 11) (Int32.toNatClampNeg v_7) 0)) 12 (upd ((va_up f2 11 (upd (f2 11) (Int32.toNatClampNeg v_7) 0)) 12) (Int32.toNatClampNeg v_7) 0)) 13) (Int32.toNatClampNeg v_7) 0)) 14) (Int32.toNatClampNeg v_7) 921)) 21 (upd ((va_up (va_up (va_up (va_up f2 11 (upd (f2 11) (Int32.toNatClampNeg v_7) 0)) 12 (upd ((va_up f2 11 (upd (f2 11) (Int32.toNatClampNeg v_7) 0)) 12) (Int32.toNatClampNeg v_7) 0)) 13 (upd ((va_up (va_up f2 11 (upd (f2 11) (Int32.toNatClampNeg v_7) 0)) 12 (upd ((va_up f2 11 (upd (f2 11) (Int32.toNatClampNeg v_7) 0)) 12) (Int32.toNatClampNeg v_7) 0)) 13) (Int32.toNatClampNeg v_7) 0)) 14 (upd ((va_up (va_up (va_up f2 11 (upd (f2 11) (Int32.toNatClampNeg v_7) 0)) 12 (upd ((va_up f2 11 (upd (f2 11) (Int32.toNatClampNeg v_7) 0)) 12) (Int32.toNatClampNeg v_7) 0)) 13 (upd ((va_up (va_up f2 11 (upd (f2 11) (Int32.toNatClampNeg v_7) 0)) 12 (upd ((va_up f2 11 (upd (f2 11) (Int32.toNatClampNeg v_7) 0)) 12) (Int32.toNatClampNeg v_7) 0)) 13) (Int32.toNatClampNeg v_7) 0)) 14) (Int32.toNatClampNeg v_7) 921)) 21) (Int32.toNatClampNeg v_7) (vp_nar .boolean 0))) 25) (Int32.toNatClampNeg v_7) from by rw [(show v11 4 = (0 : Int32) from ((xu_11V 4 (by decide)).trans (hV_2 4 (by decide)))), (show v11 31 = (600 * v_7) from (xu_11V 31 (by decide))), (show (va_up (va_up (va_up (va_up (va_up f2 11 (upd (f2 11) (Int32.toNatClampNeg v_7) 0)) 12 (upd ((va_up f2 11 (upd (f2 11) (Int32.toNatClampNeg v_7) 0)) 12) (Int32.toNatClampNeg v_7) 0)) 13 (upd ((va_up (va_up f2 11 (upd (f2 11) (Int32.toNatClampNeg v_7) 0)) 12 (upd ((va_up f2 11 (upd (f2 11) (Int32.toNatClampNeg v_7) 0)) 12) (Int32.toNatClampNeg v_7) 0)) 13) (Int32.toNatClampNeg v_7) 0)) 14 (upd ((va_up (va_up (va_up f2 11 (upd (f2 11) (Int32.toNatClampNeg v_7) 0)) 12 (upd ((va_up f2 11 (upd (f2 11) (Int32.toNatClampNeg v_7) 0)) 12) (Int32.toNatClampNeg v_7) 0)) 13 (upd ((va_up (va_up f2 11 (upd (f2 11) (Int32.toNatClampNeg v_7) 0)) 12 (upd ((va_up f2 11 (upd (f2 11) (Int32.toNatClampNeg v_7) 0)) 12) (Int32.toNatClampNeg v_7) 0)) 13) (Int32.toNatClampNeg v_7) 0)) 14) (Int32.toNatClampNeg v_7) 921)) 21 (upd ((va_up (va_up (va_up (va_up f2 11 (upd (f2 11) (Int32.toNatClampNeg v_7) 0)) 12 (upd ((va_up f2 11 (upd (f2 11) (Int32.toNatClampNeg v_7) 0)) 12) (Int32.toNatClampNeg v_7) 0)) 13 (upd ((va_up (va_up f2 11 (upd (f2 11) (Int32.toNatClampNeg v_7) 0)) 12 (upd ((va_up f2 11 (upd (f2 11) (Int32.toNatClampNeg v_7) 0)) 12) (Int32.toNatClampNeg v_7) 0)) 13) (Int32.toNatClampNeg v_7) 0)) 14 (upd ((va_up (va_up (va_up f2 11 (upd (f2 11) (Int32.toNatClampNeg v_7) 0)) 12 (upd ((va_up f2 11 (upd (f2 11) (Int32.toNatClampNeg v_7) 0)) 12) (Int32.toNatClampNeg v_7) 0)) 13 (upd ((va_up (va_up f2 11 (upd (f2 11) (Int32.toNatClampNeg v_7) 0)) 12 (upd ((va_up f2 11 (upd (f2 11) (Int32.toNatClampNeg v_7) 0)) 12) (Int32.toNatClampNeg v_7) 0)) 13) (Int32.toNatClampNeg v_7) 0)) 14) (Int32.toNatClampNeg v_7) 921)) 21) (Int32.toNatClampNeg v_7) (vp_nar .boolean 0))) 13 = (upd (f 13) (Int32.toNatClampNeg v_7) 0) from (congrArg (fun z : Nat → Int32 => upd z (Int32.toNatClampNeg v_7) 0) (hF_2 13 (by decide)))), (show (va_up (va_up (va_up (va_up (va_up f2 11 (upd (f2 11) (Int32.toNatClampNeg v_7) 0)) 12 (upd ((va_up f2 11 (upd (f2 11) (Int32.toNatClampNeg v_7) 0)) 12) (Int32.toNatClampNeg v_7) 0)) 13 (upd ((va_up (va_up f2 11 (upd (f2 11) (Int32.toNatClampNeg v_7) 0)) 12 (upd ((va_up f2 11 (upd (f2 11) (Int32.toNatClampNeg v_7) 0)) 12) (Int32.toNatClampNeg v_7) 0)) 13) (Int32.toNatClampNeg v_7) 0)) 14 (upd ((va_up (va_up (va_up f2 11 (upd (f2 11) (Int32.toNatClampNeg v_7) 0)) 12 (upd ((va_up f2 11 (upd (f2 11) (Int32.toNatClampNeg v_7) 0)) 12) (Int32.toNatClampNeg v_7) 0)) 13 (upd ((va_up (va_up f2 11 (upd (f2 11) (Int32.toNatClampNeg v_7) 0)) 12 (upd ((va_up f2 11 (upd (f2 11) (Int32.toNatClampNeg v_7) 0)) 12) (Int32.toNatClampNeg v_7) 0)) 13) (Int32.toNatClampNeg v_7) 0)) 14) (Int32.toNatClampNeg v_7) 921)) 21 (upd ((va_up (va_up (va_up (va_up f2 11 (upd (f2 11) (Int32.toNatClampNeg v_7) 0)) 12 (upd ((va_up f2 11 (upd (f2 11) (Int32.toNatClampNeg v_7) 0)) 12) (Int32.toNatClampNeg v_7) 0)) 13 (upd ((va_up (va_up f2 11 (upd (f2 11) (Int32.toNatClampNeg v_7) 0)) 12 (upd ((va_up f2 11 (upd (f2 11) (Int32.toNatClampNeg v_7) 0)) 12) (Int32.toNatClampNeg v_7) 0)) 13) (Int32.toNatClampNeg v_7) 0)) 14 (upd ((va_up (va_up (va_up f2 11 (upd (f2 11) (Int32.toNatClampNeg v_7) 0)) 12 (upd ((va_up f2 11 (upd (f2 11) (Int32.toNatClampNeg v_7) 0)) 12) (Int32.toNatClampNeg v_7) 0)) 13 (upd ((va_up (va_up f2 11 (upd (f2 11) (Int32.toNatClampNeg v_7) 0)) 12 (upd ((va_up f2 11 (upd (f2 11) (Int32.toNatClampNeg v_7) 0)) 12) (Int32.toNatClampNeg v_7) 0)) 13) (Int32.toNatClampNeg v_7) 0)) 14) (Int32.toNatClampNeg v_7) 921)) 21) (Int32.toNatClampNeg v_7) (vp_nar .boolean 0))) 12 = (upd (f 12) (Int32.toNatClampNeg v_7) 0) from (congrArg (fun z : Nat → Int32 => upd z (Int32.toNatClampNeg v_7) 0) (hF_2 12 (by decide)))), (show (va_up (va_up (va_up (va_up (va_up f2 11 (upd (f2 11) (Int32.toNatClampNeg v_7) 0)) 12 (upd ((va_up f2 11 (upd (f2 11) (Int32.toNatClampNeg v_7) 0)) 12) (Int32.toNatClampNeg v_7) 0)) 13 (upd ((va_up (va_up f2 11 (upd (f2 11) (Int32.toNatClampNeg v_7) 0)) 12 (upd ((va_up f2 11 (upd (f2 11) (Int32.toNatClampNeg v_7) 0)) 12) (Int32.toNatClampNeg v_7) 0)) 13) (Int32.toNatClampNeg v_7) 0)) 14 (upd ((va_up (va_up (va_up f2 11 (upd (f2 11) (Int32.toNatClampNeg v_7) 0)) 12 (upd ((va_up f2 11 (upd (f2 11) (Int32.toNatClampNeg v_7) 0)) 12) (Int32.toNatClampNeg v_7) 0)) 13 (upd ((va_up (va_up f2 11 (upd (f2 11) (Int32.toNatClampNeg v_7) 0)) 12 (upd ((va_up f2 11 (upd (f2 11) (Int32.toNatClampNeg v_7) 0)) 12) (Int32.toNatClampNeg v_7) 0)) 13) (Int32.toNatClampNeg v_7) 0)) 14) (Int32.toNatClampNeg v_7) 921)) 21 (upd ((va_up (va_up (va_up (va_up f2 11 (upd (f2 11) (Int32.toNatClampNeg v_7) 0)) 12 (upd ((va_up f2 11 (upd (f2 11) (Int32.toNatClampNeg v_7) 0)) 12) (Int32.toNatClampNeg v_7) 0)) 13 (upd ((va_up (va_up f2 11 (upd (f2 11) (Int32.toNatClampNeg v_7) 0)) 12 (upd ((va_up f2 11 (upd (f2 11) (Int32.toNatClampNeg v_7) 0)) 12) (Int32.toNatClampNeg v_7) 0)) 13) (Int32.toNatClampNeg v_7) 0)) 14 (upd ((va_up (va_up (va_up f2 11 (upd (f2 11) (Int32.toNatClampNeg v_7) 0)) 12 (upd ((va_up f2 11 (upd (f2 11) (Int32.toNatClampNeg v_7) 0)) 12) (Int32.toNatClampNeg v_7) 0)) 13 (upd ((va_up (va_up f2 11 (upd (f2 11) (Int32.toNatClampNeg v_7) 0)) 12 (upd ((va_up f2 11 (upd (f2 11) (Int32.toNatClampNeg v_7) 0)) 12) (Int32.toNatClampNeg v_7) 0)) 13) (Int32.toNatClampNeg v_7) 0)) 14) (Int32.toNatClampNeg v_7) 921)) 21) (Int32.toNatClampNeg v_7) (vp_nar .boolean 0))) 19 = (f 19) from (hF_2 19 (by decide))), (show (va_up (va_up (va_up (va_up (va_up f2 11 (upd (f2 11) (Int32.toNatClampNeg v_7) 0)) 12 (upd ((va_up f2 11 (upd (f2 11) (Int32.toNatClampNeg v_7) 0)) 12) (Int32.toNatClampNeg v_7) 0)) 13 (upd ((va_up (va_up f2 11 (upd (f2 11) (Int32.toNatClampNeg v_7) 0)) 12 (upd ((va_up f2 11 (upd (f2 11) (Int32.toNatClampNeg v_7) 0)) 12) (Int32.toNatClampNeg v_7) 0)) 13) (Int32.toNatClampNeg v_7) 0)) 14 (upd ((va_up (va_up (va_up f2 11 (upd (f2 11) (Int32.toNatClampNeg v_7) 0)) 12 (upd ((va_up f2 11 (upd (f2 11) (Int32.toNatClampNeg v_7) 0)) 12) (Int32.toNatClampNeg v_7) 0)) 13 (upd ((va_up (va_up f2 11 (upd (f2 11) (Int32.toNatClampNeg v_7) 0)) 12 (upd ((va_up f2 11 (upd (f2 11) (Int32.toNatClampNeg v_7) 0)) 12) (Int32.toNatClampNeg v_7) 0)) 13) (Int32.toNatClampNeg v_7) 0)) 14) (Int32.toNatClampNeg v_7) 921)) 21 (upd ((va_up (va_up (va_up (va_up f2 11 (upd (f2 11) (Int32.toNatClampNeg v_7) 0)) 12 (upd ((va_up f2 11 (upd (f2 11) (Int32.toNatClampNeg v_7) 0)) 12) (Int32.toNatClampNeg v_7) 0)) 13 (upd ((va_up (va_up f2 11 (upd (f2 11) (Int32.toNatClampNeg v_7) 0)) 12 (upd ((va_up f2 11 (upd (f2 11) (Int32.toNatClampNeg v_7) 0)) 12) (Int32.toNatClampNeg v_7) 0)) 13) (Int32.toNatClampNeg v_7) 0)) 14 (upd ((va_up (va_up (va_up f2 11 (upd (f2 11) (Int32.toNatClampNeg v_7) 0)) 12 (upd ((va_up f2 11 (upd (f2 11) (Int32.toNatClampNeg v_7) 0)) 12) (Int32.toNatClampNeg v_7) 0)) 13 (upd ((va_up (va_up f2 11 (upd (f2 11) (Int32.toNatClampNeg v_7) 0)) 12 (upd ((va_up f2 11 (upd (f2 11) (Int32.toNatClampNeg v_7) 0)) 12) (Int32.toNatClampNeg v_7) 0)) 13) (Int32.toNatClampNeg v_7) 0)) 14) (Int32.toNatClampNeg v_7) 921)) 21) (Int32.toNatClampNeg v_7) (vp_nar .boolean 0))) 20 = (f 20) from (hF_2 20 (by decide))), (show (va_up (va_up (va_up (va_up (va_up f2 11 (upd (f2 11) (Int32.toNatClampNeg v_7) 0)) 12 (upd ((va_up f2 11 (upd (f2 11) (Int32.toNatClampNeg v_7) 0)) 12) (Int32.toNatClampNeg v_7) 0)) 13 (upd ((va_up (va_up f2 11 (upd (f2 11) (Int32.toNatClampNeg v_7) 0)) 12 (upd ((va_up f2 11 (upd (f2 11) (Int32.toNatClampNeg v_7) 0)) 12) (Int32.toNatClampNeg v_7) 0)) 13) (Int32.toNatClampNeg v_7) 0)) 14 (upd ((va_up (va_up (va_up f2 11 (upd (f2 11) (Int32.toNatClampNeg v_7) 0)) 12 (upd ((va_up f2 11 (upd (f2 11) (Int32.toNatClampNeg v_7) 0)) 12) (Int32.toNatClampNeg v_7) 0)) 13 (upd ((va_up (va_up f2 11 (upd (f2 11) (Int32.toNatClampNeg v_7) 0)) 12 (upd ((va_up f2 11 (upd (f2 11) (Int32.toNatClampNeg v_7) 0)) 12) (Int32.toNatClampNeg v_7) 0)) 13) (Int32.toNatClampNeg v_7) 0)) 14) (Int32.toNatClampNeg v_7) 921)) 21 (upd ((va_up (va_up (va_up (va_up f2 11 (upd (f2 11) (Int32.toNatClampNeg v_7) 0)) 12 (upd ((va_up f2 11 (upd (f2 11) (Int32.toNatClampNeg v_7) 0)) 12) (Int32.toNatClampNeg v_7) 0)) 13 (upd ((va_up (va_up f2 11 (upd (f2 11) (Int32.toNatClampNeg v_7) 0)) 12 (upd ((va_up f2 11 (upd (f2 11) (Int32.toNatClampNeg v_7) 0)) 12) (Int32.toNatClampNeg v_7) 0)) 13) (Int32.toNatClampNeg v_7) 0)) 14 (upd ((va_up (va_up (va_up f2 11 (upd (f2 11) (Int32.toNatClampNeg v_7) 0)) 12 (upd ((va_up f2 11 (upd (f2 11) (Int32.toNatClampNeg v_7) 0)) 12) (Int32.toNatClampNeg v_7) 0)) 13 (upd ((va_up (va_up f2 11 (upd (f2 11) (Int32.toNatClampNeg v_7) 0)) 12 (upd ((va_up f2 11 (upd (f2 11) (Int32.toNatClampNeg v_7) 0)) 12) (Int32.toNatClampNeg v_7) 0)) 13) (Int32.toNatClampNeg v_7) 0)) 14) (Int32.toNatClampNeg v_7) 921)) 21) (Int32.toNatClampNeg v_7) (vp_nar .boolean 0))) 24 = (f 24) from (hF_2 24 (by decide))), (show (va_up (va_up (va_up (va_up (va_up f2 11 (upd (f2 11) (Int32.toNatClampNeg v_7) 0)) 12 (upd ((va_up f2 11 (upd (f2 11) (Int32.toNatClampNeg v_7) 0)) 12) (Int32.toNatClampNeg v_7) 0)) 13 (upd ((va_up (va_up f2 11 (upd (f2 11) (Int32.toNatClampNeg v_7) 0)) 12 (upd ((va_up f2 11 (upd (f2 11) (Int32.toNatClampNeg v_7) 0)) 12) (Int32.toNatClampNeg v_7) 0)) 13) (Int32.toNatClampNeg v_7) 0)) 14 (upd ((va_up (va_up (va_up f2 11 (upd (f2 11) (Int32.toNatClampNeg v_7) 0)) 12 (upd ((va_up f2 11 (upd (f2 11) (Int32.toNatClampNeg v_7) 0)) 12) (Int32.toNatClampNeg v_7) 0)) 13 (upd ((va_up (va_up f2 11 (upd (f2 11) (Int32.toNatClampNeg v_7) 0)) 12 (upd ((va_up f2 11 (upd (f2 11) (Int32.toNatClampNeg v_7) 0)) 12) (Int32.toNatClampNeg v_7) 0)) 13) (Int32.toNatClampNeg v_7) 0)) 14) (Int32.toNatClampNeg v_7) 921)) 21 (upd ((va_up (va_up (va_up (va_up f2 11 (upd (f2 11) (Int32.toNatClampNeg v_7) 0)) 12 (upd ((va_up f2 11 (upd (f2 11) (Int32.toNatClampNeg v_7) 0)) 12) (Int32.toNatClampNeg v_7) 0)) 13 (upd ((va_up (va_up f2 11 (upd (f2 11) (Int32.toNatClampNeg v_7) 0)) 12 (upd ((va_up f2 11 (upd (f2 11) (Int32.toNatClampNeg v_7) 0)) 12) (Int32.toNatClampNeg v_7) 0)) 13) (Int32.toNatClampNeg v_7) 0)) 14 (upd ((va_up (va_up (va_up f2 11 (upd (f2 11) (Int32.toNatClampNeg v_7) 0)) 12 (upd ((va_up f2 11 (upd (f2 11) (Int32.toNatClampNeg v_7) 0)) 12) (Int32.toNatClampNeg v_7) 0)) 13 (upd ((va_up (va_up f2 11 (upd (f2 11) (Int32.toNatClampNeg v_7) 0)) 12 (upd ((va_up f2 11 (upd (f2 11) (Int32.toNatClampNeg v_7) 0)) 12) (Int32.toNatClampNeg v_7) 0)) 13) (Int32.toNatClampNeg v_7) 0)) 14) (Int32.toNatClampNeg v_7) 921)) 21) (Int32.toNatClampNeg v_7) (vp_nar .boolean 0))) 25 = (f 25) from (hF_2 25 (by decide)))]; exact fun h9 => ⟨fun l hl => absurd hl (by rw [pk_us]; omega), fun l hl => absurd hl (by rw [pk_us]; omega), by omega, by rw [pk_us]; omega⟩) (Nat.lt_succ_self _) hP hD hS (lv_sub hl [0, 1] rfl)
      · have q_71 : x1_2.toInt < (v 2).toInt := by have := (not_congr (ow_le _ _)).mp c_4; omega
        refine lv_aload_n hx hb dX12_town_28 rfl (lv_at hl 1 rfl) ?_
        refine mg_1 hx hb ht hown hK hP dX12_town_29 ?_
        refine lv_iload_n hx hb dX12_town_32 rfl (lv_at hl 0 rfl) ?_
        refine lv_aload_n hx hb dX12_town_33 rfl (lv_at hl 1 rfl) ?_
        refine mg_0 hx hb ht hown hK hP dX12_town_34 ?_
        refine lv_iload_n hx hb dX12_town_37 rfl (lv_at hl 0 rfl) ?_
        have q_72 : vp_in x1_2 1720 := vp_in_iff.mpr ⟨by omega, by omega⟩
        refine ml_0 hx hb hK hP q_72 dX12_town_38 ?_
        refine lv_topi (fun v_73 ev_73 => ?_)
        have q_74 : vp_in x1_2 1700 := vp_in_iff.mpr ⟨by omega, by omega⟩
        refine ms_1 hx hb hK hP hD hS q_74 dX12_town_39 (fun H locs hP hD hS => ?_)
        replace hf := MIf.up 1 (i := (Int32.toNatClampNeg x1_2)) hf (ow_any (vp_nar .byte v_73))
        replace hF_0 := FF.up hF_0 1 (upd (f2 1) (Int32.toNatClampNeg x1_2) (vp_nar .byte v_73)) (by decide)
        replace hY_2 := FF.up hY_2 1 (upd (f2 1) (Int32.toNatClampNeg x1_2) (vp_nar .byte v_73)) (by decide)
        replace hL : WL v2 (va_up f2 1 (upd (f2 1) (Int32.toNatClampNeg x1_2) (vp_nar .byte v_73))) := WL.upf 1 hL (by decide)
        replace hR : RI v2 (va_up f2 1 (upd (f2 1) (Int32.toNatClampNeg x1_2) (vp_nar .byte v_73))) := RI.up 1 hR (by decide)
        obtain ⟨v_75, ev_75⟩ : ∃ y : Int32, y = x1_2 + 1 := ⟨_, rfl⟩
        refine lv_iinc (v := v_75) (lv' := [(1, .int v_75), (0, .ref mo)]) hx hb dX12_town_40 hl (k := 0) rfl (by rw [ev_75]; rfl) (by decide) rfl (fun ls hl => ?_)
        have q_76 : v_75.toInt = x1_2.toInt + 1 := by have := ow_add ev_75 (by omega) (by omega); omega
        refine lv_goto (tgt := 20) hx hb dX12_town_43 (by decide) ?_
        refine W.widen (k := 0) (n := 0) (Nat.le_of_ble_eq_true rfl) (Nat.le_of_ble_eq_true rfl) ?_
        exact ih_2 v_75 v2 nm2 (va_up f2 1 (upd (f2 1) (Int32.toNatClampNeg x1_2) (vp_nar .byte v_73))) g2 _ _ _ hv hf hR hL hW_2 hY_2 (by omega) (by omega) hP hD hS (lv_sub hl [0, 1] rfl)
  exact lp_2 _ (0) (va_up (va_up (va_up v 4 0) 5 (-1)) 3 (v 2)) nm f g _ _ _ hv hf hR hL FV.rf FF.rf (by omega) (Nat.lt_succ_self _) hP hD hS (lv_sub hl [0, 1] rfl)
