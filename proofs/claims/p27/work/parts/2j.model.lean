theorem k_247 : (Cond.code yX12_wordHere cX12_wordHere 1 (some .int)) ∈ TBg := tb_mem 1302 (by decide +kernel) (by decide +kernel)
theorem k_248 : (Cond.methodLink RX12 299 yX12_wordHere) ∈ TBg := tb_mem 1299 (by decide +kernel) (by decide +kernel)
theorem k_249 : (Cond.instanceMethod yX12_wordHere) ∈ TBg := tb_mem 1301 (by decide +kernel) (by decide +kernel)
theorem k_250 : (Cond.selects RX12 yX12_wordHere yX12_wordHere) ∈ TBg := tb_mem 51 (by decide +kernel) (by decide +kernel)
theorem k_251 : (Cond.code yX12_pushE cX12_pushE 3 none) ∈ TBg := tb_mem 1290 (by decide +kernel) (by decide +kernel)
theorem k_252 : (Cond.methodLink RX12 290 yX12_pushE) ∈ TBg := tb_mem 1287 (by decide +kernel) (by decide +kernel)
theorem k_253 : (Cond.instanceMethod yX12_pushE) ∈ TBg := tb_mem 1289 (by decide +kernel) (by decide +kernel)
theorem k_254 : (Cond.selects RX12 yX12_pushE yX12_pushE) ∈ TBg := tb_mem 48 (by decide +kernel) (by decide +kernel)
theorem k_255 : (Cond.code yX12_emit cX12_emit 3 none) ∈ TBg := tb_mem 1306 (by decide +kernel) (by decide +kernel)
theorem k_256 : (Cond.methodLink RX12 302 yX12_emit) ∈ TBg := tb_mem 1303 (by decide +kernel) (by decide +kernel)
theorem k_257 : (Cond.instanceMethod yX12_emit) ∈ TBg := tb_mem 1305 (by decide +kernel) (by decide +kernel)
theorem k_258 : (Cond.selects RX12 yX12_emit yX12_emit) ∈ TBg := tb_mem 52 (by decide +kernel) (by decide +kernel)
theorem k_259 : (Cond.code yX12_tuneHere cX12_tuneHere 1 (some .int)) ∈ TBg := tb_mem 1262 (by decide +kernel) (by decide +kernel)
theorem k_260 : (Cond.methodLink RX12 269 yX12_tuneHere) ∈ TBg := tb_mem 1259 (by decide +kernel) (by decide +kernel)
theorem k_261 : (Cond.instanceMethod yX12_tuneHere) ∈ TBg := tb_mem 1261 (by decide +kernel) (by decide +kernel)
theorem k_262 : (Cond.selects RX12 yX12_tuneHere yX12_tuneHere) ∈ TBg := tb_mem 41 (by decide +kernel) (by decide +kernel)
theorem dX12_unit_36 : decode cX12_unit 36 = .ok (.istore_n 1, 1) := by decide +kernel
theorem dX12_unit_56 : decode cX12_unit 56 = .ok (.istore_n 2, 1) := by decide +kernel
theorem dX12_unit_57 : decode cX12_unit 57 = .ok (.aload_n 0, 1) := by decide +kernel
theorem dX12_unit_58 : decode cX12_unit 58 = .ok (.bipush 40, 2) := by decide +kernel
theorem dX12_unit_60 : decode cX12_unit 60 = .ok (.invokevirtual 258, 3) := by decide +kernel
theorem dX12_unit_63 : decode cX12_unit 63 = .ok (.istore_n 3, 1) := by decide +kernel
theorem dX12_unit_64 : decode cX12_unit 64 = .ok (.aload_n 0, 1) := by decide +kernel
theorem dX12_unit_65 : decode cX12_unit 65 = .ok (.invokevirtual 299, 3) := by decide +kernel
theorem dX12_unit_68 : decode cX12_unit 68 = .ok (.istore 4, 2) := by decide +kernel
theorem dX12_unit_126 : decode cX12_unit 126 = .ok (.aload_n 0, 1) := by decide +kernel
theorem dX12_unit_127 : decode cX12_unit 127 = .ok (.invokevirtual 208, 3) := by decide +kernel
theorem dX12_unit_130 : decode cX12_unit 130 = .ok (.ifCond .ne 5, 3) := by decide +kernel
theorem dX12_unit_135 : decode cX12_unit 135 = .ok (.aload_n 0, 1) := by decide +kernel
theorem dX12_unit_136 : decode cX12_unit 136 = .ok (.getfield 27, 3) := by decide +kernel
theorem dX12_unit_139 : decode cX12_unit 139 = .ok (.aload_n 0, 1) := by decide +kernel
theorem dX12_unit_140 : decode cX12_unit 140 = .ok (.getfield 218, 3) := by decide +kernel
theorem dX12_unit_143 : decode cX12_unit 143 = .ok (.dup2, 1) := by decide +kernel
theorem dX12_unit_144 : decode cX12_unit 144 = .ok (.iaload, 1) := by decide +kernel
theorem dX12_unit_154 : decode cX12_unit 154 = .ok (.iadd, 1) := by decide +kernel
theorem dX12_unit_155 : decode cX12_unit 155 = .ok (.iastore, 1) := by decide +kernel
theorem dX12_unit_156 : decode cX12_unit 156 = .ok (.aload_n 0, 1) := by decide +kernel
theorem dX12_unit_157 : decode cX12_unit 157 = .ok (.getfield 198, 3) := by decide +kernel
theorem dX12_unit_160 : decode cX12_unit 160 = .ok (.istore 5, 2) := by decide +kernel
theorem dX12_unit_162 : decode cX12_unit 162 = .ok (.aload_n 0, 1) := by decide +kernel
theorem dX12_unit_163 : decode cX12_unit 163 = .ok (.invokevirtual 212, 3) := by decide +kernel
theorem dX12_unit_166 : decode cX12_unit 166 = .ok (.iload_n 2, 1) := by decide +kernel
theorem dX12_unit_167 : decode cX12_unit 167 = .ok (.ifCond .ne 7, 3) := by decide +kernel
theorem dX12_unit_174 : decode cX12_unit 174 = .ok (.aload_n 0, 1) := by decide +kernel
theorem dX12_unit_175 : decode cX12_unit 175 = .ok (.iload_n 2, 1) := by decide +kernel
theorem dX12_unit_176 : decode cX12_unit 176 = .ok (.ifCond .eq 7, 3) := by decide +kernel
theorem dX12_unit_179 : decode cX12_unit 179 = .ok (.iconst 3, 1) := by decide +kernel
theorem dX12_unit_180 : decode cX12_unit 180 = .ok (.goto 5, 3) := by decide +kernel
theorem dX12_unit_185 : decode cX12_unit 185 = .ok (.bipush 126, 2) := by decide +kernel
theorem dX12_unit_187 : decode cX12_unit 187 = .ok (.invokevirtual 290, 3) := by decide +kernel
theorem dX12_unit_190 : decode cX12_unit 190 = .ok (.aload_n 0, 1) := by decide +kernel
theorem dX12_unit_191 : decode cX12_unit 191 = .ok (.dup, 1) := by decide +kernel
theorem dX12_unit_192 : decode cX12_unit 192 = .ok (.getfield 287, 3) := by decide +kernel
theorem dX12_unit_195 : decode cX12_unit 195 = .ok (.iconst 1, 1) := by decide +kernel
theorem dX12_unit_196 : decode cX12_unit 196 = .ok (.iadd, 1) := by decide +kernel
theorem dX12_unit_197 : decode cX12_unit 197 = .ok (.putfield 287, 3) := by decide +kernel
theorem dX12_unit_200 : decode cX12_unit 200 = .ok (.iconst 1, 1) := by decide +kernel
theorem dX12_unit_201 : decode cX12_unit 201 = .ok (.ireturn, 1) := by decide +kernel
theorem dX12_unit_170 : decode cX12_unit 170 = .ok (.iload_n 3, 1) := by decide +kernel
theorem dX12_unit_171 : decode cX12_unit 171 = .ok (.ifCond .eq 31, 3) := by decide +kernel
theorem dX12_unit_269 : decode cX12_unit 269 = .ok (.aload_n 0, 1) := by decide +kernel
theorem dX12_unit_270 : decode cX12_unit 270 = .ok (.iload 4, 2) := by decide +kernel
theorem dX12_unit_272 : decode cX12_unit 272 = .ok (.ifCond .ne 8, 3) := by decide +kernel
theorem dX12_unit_280 : decode cX12_unit 280 = .ok (.iload 4, 2) := by decide +kernel
theorem dX12_unit_282 : decode cX12_unit 282 = .ok (.iload 5, 2) := by decide +kernel
theorem dX12_unit_284 : decode cX12_unit 284 = .ok (.invokevirtual 302, 3) := by decide +kernel
theorem dX12_unit_287 : decode cX12_unit 287 = .ok (.iconst 0, 1) := by decide +kernel
theorem dX12_unit_288 : decode cX12_unit 288 = .ok (.ireturn, 1) := by decide +kernel
theorem dX12_unit_275 : decode cX12_unit 275 = .ok (.bipush 107, 2) := by decide +kernel
theorem dX12_unit_277 : decode cX12_unit 277 = .ok (.goto 5, 3) := by decide +kernel
theorem dX12_unit_223 : decode cX12_unit 223 = .ok (.aload_n 0, 1) := by decide +kernel
theorem dX12_unit_224 : decode cX12_unit 224 = .ok (.invokevirtual 269, 3) := by decide +kernel
theorem dX12_unit_227 : decode cX12_unit 227 = .ok (.istore 5, 2) := by decide +kernel
theorem dX12_unit_229 : decode cX12_unit 229 = .ok (.aload_n 0, 1) := by decide +kernel
theorem dX12_unit_230 : decode cX12_unit 230 = .ok (.getfield 180, 3) := by decide +kernel
theorem dX12_unit_233 : decode cX12_unit 233 = .ok (.iconst 2, 1) := by decide +kernel
theorem dX12_unit_234 : decode cX12_unit 234 = .ok (.if_icmp .eq 10, 3) := by decide +kernel
theorem dX12_unit_244 : decode cX12_unit 244 = .ok (.iload 5, 2) := by decide +kernel
theorem dX12_unit_246 : decode cX12_unit 246 = .ok (.ifCond .ge 12, 3) := by decide +kernel
theorem dX12_unit_258 : decode cX12_unit 258 = .ok (.aload_n 0, 1) := by decide +kernel
theorem dX12_unit_259 : decode cX12_unit 259 = .ok (.invokevirtual 208, 3) := by decide +kernel
theorem dX12_unit_262 : decode cX12_unit 262 = .ok (.ifCond .eq 7, 3) := by decide +kernel
theorem dX12_unit_265 : decode cX12_unit 265 = .ok (.aload_n 0, 1) := by decide +kernel
theorem dX12_unit_266 : decode cX12_unit 266 = .ok (.invokevirtual 212, 3) := by decide +kernel
theorem dX12_unit_249 : decode cX12_unit 249 = .ok (.aload_n 0, 1) := by decide +kernel
theorem dX12_unit_250 : decode cX12_unit 250 = .ok (.iconst 5, 1) := by decide +kernel
theorem dX12_unit_251 : decode cX12_unit 251 = .ok (.aload_n 0, 1) := by decide +kernel
theorem dX12_unit_252 : decode cX12_unit 252 = .ok (.getfield 173, 3) := by decide +kernel
theorem dX12_unit_255 : decode cX12_unit 255 = .ok (.invokevirtual 204, 3) := by decide +kernel
theorem dX12_unit_237 : decode cX12_unit 237 = .ok (.aload_n 0, 1) := by decide +kernel
theorem dX12_unit_238 : decode cX12_unit 238 = .ok (.invokevirtual 215, 3) := by decide +kernel
theorem dX12_unit_241 : decode cX12_unit 241 = .ok (.goto 17, 3) := by decide +kernel
theorem dX12_unit_202 : decode cX12_unit 202 = .ok (.iload 4, 2) := by decide +kernel
theorem dX12_unit_204 : decode cX12_unit 204 = .ok (.bipush 105, 2) := by decide +kernel
theorem dX12_unit_206 : decode cX12_unit 206 = .ok (.if_icmp .eq 17, 3) := by decide +kernel
theorem dX12_unit_209 : decode cX12_unit 209 = .ok (.iload 4, 2) := by decide +kernel
theorem dX12_unit_211 : decode cX12_unit 211 = .ok (.bipush 98, 2) := by decide +kernel
theorem dX12_unit_213 : decode cX12_unit 213 = .ok (.if_icmp .eq 10, 3) := by decide +kernel
theorem dX12_unit_216 : decode cX12_unit 216 = .ok (.iload 4, 2) := by decide +kernel
theorem dX12_unit_218 : decode cX12_unit 218 = .ok (.bipush 101, 2) := by decide +kernel
theorem dX12_unit_220 : decode cX12_unit 220 = .ok (.if_icmp .ne 49, 3) := by decide +kernel
theorem dX12_unit_183 : decode cX12_unit 183 = .ok (.bipush 6, 2) := by decide +kernel
theorem dX12_unit_145 : decode cX12_unit 145 = .ok (.iload_n 2, 1) := by decide +kernel
theorem dX12_unit_146 : decode cX12_unit 146 = .ok (.ifCond .eq 7, 3) := by decide +kernel
theorem dX12_unit_153 : decode cX12_unit 153 = .ok (.iconst 1, 1) := by decide +kernel
theorem dX12_unit_149 : decode cX12_unit 149 = .ok (.iconst 0, 1) := by decide +kernel
theorem dX12_unit_150 : decode cX12_unit 150 = .ok (.goto 4, 3) := by decide +kernel
theorem dX12_unit_133 : decode cX12_unit 133 = .ok (.iconst 1, 1) := by decide +kernel
theorem dX12_unit_134 : decode cX12_unit 134 = .ok (.ireturn, 1) := by decide +kernel
theorem dX12_unit_70 : decode cX12_unit 70 = .ok (.iload_n 2, 1) := by decide +kernel
theorem dX12_unit_71 : decode cX12_unit 71 = .ok (.ifCond .ne 34, 3) := by decide +kernel
theorem dX12_unit_105 : decode cX12_unit 105 = .ok (.iload_n 2, 1) := by decide +kernel
theorem dX12_unit_106 : decode cX12_unit 106 = .ok (.ifCond .ne 7, 3) := by decide +kernel
theorem dX12_unit_113 : decode cX12_unit 113 = .ok (.aload_n 0, 1) := by decide +kernel
theorem dX12_unit_114 : decode cX12_unit 114 = .ok (.getfield 287, 3) := by decide +kernel
theorem dX12_unit_117 : decode cX12_unit 117 = .ok (.bipush 7, 2) := by decide +kernel
theorem dX12_unit_119 : decode cX12_unit 119 = .ok (.if_icmp .ne 7, 3) := by decide +kernel
theorem dX12_unit_122 : decode cX12_unit 122 = .ok (.aload_n 0, 1) := by decide +kernel
theorem dX12_unit_123 : decode cX12_unit 123 = .ok (.invokevirtual 215, 3) := by decide +kernel
theorem dX12_unit_74 : decode cX12_unit 74 = .ok (.iload 4, 2) := by decide +kernel
theorem dX12_unit_76 : decode cX12_unit 76 = .ok (.ifCond .ne 15, 3) := by decide +kernel
theorem dX12_unit_91 : decode cX12_unit 91 = .ok (.aload_n 0, 1) := by decide +kernel
theorem dX12_unit_92 : decode cX12_unit 92 = .ok (.getfield 27, 3) := by decide +kernel
theorem dX12_unit_95 : decode cX12_unit 95 = .ok (.aload_n 0, 1) := by decide +kernel
theorem dX12_unit_96 : decode cX12_unit 96 = .ok (.getfield 218, 3) := by decide +kernel
theorem dX12_unit_99 : decode cX12_unit 99 = .ok (.iaload, 1) := by decide +kernel
theorem dX12_unit_100 : decode cX12_unit 100 = .ok (.bipush 60, 2) := by decide +kernel
theorem dX12_unit_102 : decode cX12_unit 102 = .ok (.if_icmp .eq 20, 3) := by decide +kernel
theorem dX12_unit_109 : decode cX12_unit 109 = .ok (.iload_n 3, 1) := by decide +kernel
theorem dX12_unit_110 : decode cX12_unit 110 = .ok (.ifCond .eq 16, 3) := by decide +kernel
theorem dX12_unit_79 : decode cX12_unit 79 = .ok (.aload_n 0, 1) := by decide +kernel
theorem dX12_unit_80 : decode cX12_unit 80 = .ok (.getfield 180, 3) := by decide +kernel
theorem dX12_unit_83 : decode cX12_unit 83 = .ok (.iconst 4, 1) := by decide +kernel
theorem dX12_unit_84 : decode cX12_unit 84 = .ok (.if_icmp .eq 7, 3) := by decide +kernel
theorem dX12_unit_87 : decode cX12_unit 87 = .ok (.iload_n 3, 1) := by decide +kernel
theorem dX12_unit_88 : decode cX12_unit 88 = .ok (.ifCond .eq 34, 3) := by decide +kernel
theorem dX12_unit_37 : decode cX12_unit 37 = .ok (.iload_n 1, 1) := by decide +kernel
theorem dX12_unit_38 : decode cX12_unit 38 = .ok (.ifCond .eq 17, 3) := by decide +kernel
theorem dX12_unit_55 : decode cX12_unit 55 = .ok (.iconst 0, 1) := by decide +kernel
theorem dX12_unit_41 : decode cX12_unit 41 = .ok (.aload_n 0, 1) := by decide +kernel
theorem dX12_unit_42 : decode cX12_unit 42 = .ok (.ldc2_w 168, 3) := by decide +kernel
theorem dX12_unit_45 : decode cX12_unit 45 = .ok (.invokevirtual 243, 3) := by decide +kernel
theorem dX12_unit_48 : decode cX12_unit 48 = .ok (.ifCond .eq 7, 3) := by decide +kernel
theorem dX12_unit_51 : decode cX12_unit 51 = .ok (.iconst 1, 1) := by decide +kernel
theorem dX12_unit_52 : decode cX12_unit 52 = .ok (.goto 4, 3) := by decide +kernel
theorem dX12_unit_0 : decode cX12_unit 0 = .ok (.aload_n 0, 1) := by decide +kernel
theorem dX12_unit_1 : decode cX12_unit 1 = .ok (.getfield 68, 3) := by decide +kernel
theorem dX12_unit_4 : decode cX12_unit 4 = .ok (.aload_n 0, 1) := by decide +kernel
theorem dX12_unit_5 : decode cX12_unit 5 = .ok (.getfield 284, 3) := by decide +kernel
theorem dX12_unit_8 : decode cX12_unit 8 = .ok (.iconst 1, 1) := by decide +kernel
theorem dX12_unit_9 : decode cX12_unit 9 = .ok (.isub, 1) := by decide +kernel
theorem dX12_unit_10 : decode cX12_unit 10 = .ok (.iaload, 1) := by decide +kernel
theorem dX12_unit_11 : decode cX12_unit 11 = .ok (.iconst 3, 1) := by decide +kernel
theorem dX12_unit_12 : decode cX12_unit 12 = .ok (.if_icmp .le 19, 3) := by decide +kernel
theorem dX12_unit_31 : decode cX12_unit 31 = .ok (.iconst 1, 1) := by decide +kernel
theorem dX12_unit_32 : decode cX12_unit 32 = .ok (.goto 4, 3) := by decide +kernel
theorem dX12_unit_15 : decode cX12_unit 15 = .ok (.aload_n 0, 1) := by decide +kernel
theorem dX12_unit_16 : decode cX12_unit 16 = .ok (.getfield 68, 3) := by decide +kernel
theorem dX12_unit_19 : decode cX12_unit 19 = .ok (.aload_n 0, 1) := by decide +kernel
theorem dX12_unit_20 : decode cX12_unit 20 = .ok (.getfield 284, 3) := by decide +kernel
theorem dX12_unit_23 : decode cX12_unit 23 = .ok (.iconst 1, 1) := by decide +kernel
theorem dX12_unit_24 : decode cX12_unit 24 = .ok (.isub, 1) := by decide +kernel
theorem dX12_unit_25 : decode cX12_unit 25 = .ok (.iaload, 1) := by decide +kernel
theorem dX12_unit_26 : decode cX12_unit 26 = .ok (.bipush 6, 2) := by decide +kernel
theorem dX12_unit_28 : decode cX12_unit 28 = .ok (.if_icmp .lt 7, 3) := by decide +kernel
theorem dX12_unit_35 : decode cX12_unit 35 = .ok (.iconst 0, 1) := by decide +kernel
set_option maxHeartbeats 4000000 in
set_option maxRecDepth 100000 in
theorem m_unit (l : Launch) (G : va_G) (cy : Nat → ClassId) (sz : Nat) (mo : Nat) (h : Nat → Nat) (T : Int) (v : Nat → Int32) (nm : Int64) (f : Nat → Nat → Int32) (g : Nat → Nat → Int64)  (Fz : Int) (hv : MIv T v) (hf : MIf f) (hR : RI v f) (hL : WL v f) (he : (v 7).toInt ≤ (v 3).toInt) (hE : EI 1 (v 30).toInt Fz (v 31).toInt (v 33).toInt (v 32).toInt (f 13 (Int32.toNatClampNeg (v 30))).toInt (f 26) (f 27) (f 24) (f 25)) (hfk : (v 4).toInt = 0) (hp1 : 1 ≤ (v 33).toInt) (hrb : (v 30).toInt + (v 29).toInt = 1) : Met l yX12_unit (.code yX12_unit cX12_unit 6 (some .boolean) :: TBg) ({ frames := 3, cells := 0, slots := 0, locals := 192 }) (va_Pc [.ref mo] (En G cy (WMs cy mo h v nm f g) sz)) (va_Qi (fun (r : Int32) (u : (Nat → Int32) × Int64 × (Nat → Nat → Int32) × (Nat → Nat → Int64)) => MIv T u.1 ∧ MIf u.2.2.1 ∧ RI u.1 u.2.2.1 ∧ WL u.1 u.2.2.1 ∧ FV [4, 5, 6, 7, 8, 9, 31, 32, 33] v u.1 ∧ FF [13, 24, 25, 26, 27] f u.2.2.1 ∧ ((r.toInt = 0 ∨ r.toInt = 1) ∧ ((u.1 7).toInt ≤ (v 3).toInt)) ∧ (0 ≤ mz (v 3).toInt (u.1 7).toInt (u.1 8).toInt ∧ mz (v 3).toInt (u.1 7).toInt (u.1 8).toInt ≤ mz (v 3).toInt (v 7).toInt (v 8).toInt ∧ ((u.1 4).toInt ≠ 0 ∨ mz (v 3).toInt (u.1 7).toInt (u.1 8).toInt < mz (v 3).toInt (v 7).toInt (v 8).toInt)) ∧ ((u.1 4).toInt = 0 → EI r.toInt (v 30).toInt Fz (u.1 31).toInt (u.1 33).toInt (u.1 32).toInt (u.2.2.1 13 (Int32.toNatClampNeg (v 30))).toInt (u.2.2.1 26) (u.2.2.1 27) (u.2.2.1 24) (u.2.2.1 25)) ∧ (OUT Fz (600 * (v 30).toInt + 600) (f 24) (f 25) (u.2.2.1 24) (u.2.2.1 25))) (fun u t => Ex G (va_A (WMs cy mo h v nm f g) sz) (WMs cy mo h u.1 u.2.1 u.2.2.1 u.2.2.2) t) (va_A (WMs cy mo h v nm f g) sz)) 0 0 (va_A (WMs cy mo h v nm f g) sz) := by
  refine Met.ofW (cc := cX12_unit) (maxL := 6) (ret := (some .boolean)) (by decide) rfl ?_
  intro p e s m args below meth c s₁ B hml hv9
  obtain ⟨rfl, hsz, hP, hK, hD0, hN⟩ := hv9
  have hx := B.exec
  have hb := B.bytes
  have hr := B.returns
  have hts := atoms_spec (ws := .code yX12_unit cX12_unit 6 (some .boolean) :: TBg) B.pre
  have ht : ∀ w ∈ TBg, w.before _ s = true := fun w h => hts w (List.mem_cons_of_mem _ h)
  have hown : s.vm.findClass RX12 = some m.cls := findClass_of_methodNamed B.named
  have hlocks := B.notSynchronized
  subst hsz
  have hD := hD0.self (sz := s.heap.size)
  generalize hAe : va_A (WMs cy mo h v nm f g) s.heap.size = A at hD ⊢
  have hA : ∀ q : Nat, s.heap.size ≤ q → A q := fun q h => by rw [← hAe]; exact Or.inr h
  have hS : va_S A s.heap s.heap [] := va_S.rf
  have hl := lv_entry ([.ref mo]) (n := 6) (Nat.le_of_ble_eq_true rfl)
  rw [lg_entry_eq]
  generalize (lg_sl ([.ref mo]) ++ List.replicate (6 - (lg_sl ([.ref mo])).length) Slot.unset).toArray = ls at hl ⊢
  have hl : lv_has ls 6 [(0, .ref mo)] := hl
  have z0 : (0 : Int32).toInt = 0 := by decide
  have z1 : (1 : Int32).toInt = 1 := by decide
  have z2 : (2 : Int32).toInt = 2 := by decide
  have z3 : (3 : Int32).toInt = 3 := by decide
  have z4 : (4 : Int32).toInt = 4 := by decide
  have z5 : (5 : Int32).toInt = 5 := by decide
  have z6 : (6 : Int32).toInt = 6 := by decide
  have z7 : (7 : Int32).toInt = 7 := by decide
  have z8 : (40 : Int32).toInt = 40 := by decide
  have z9 : (60 : Int32).toInt = 60 := by decide
  have z10 : (98 : Int32).toInt = 98 := by decide
  have z11 : (101 : Int32).toInt = 101 := by decide
  have z12 : (105 : Int32).toInt = 105 := by decide
  have z13 : (107 : Int32).toInt = 107 := by decide
  have z14 : (126 : Int32).toInt = 126 := by decide
  have hf_0 := hf
  have hV_0 : FV [4, 5, 6, 7, 8, 9, 31, 32, 33] v v := FV.rf
  have hF_0 : FF [13, 24, 25, 26, 27] f f := FF.rf
  have hmz0 : 0 ≤ mz (v 3).toInt (v 7).toInt (v 8).toInt := mz_nn he
  have rg4 : 0 ≤ (v 4).toInt ∧ (v 4).toInt ≤ 5 := hv 4
  have rg29 : 0 ≤ (v 29).toInt ∧ (v 29).toInt ≤ 1 := hv 29
  have rg30 : 0 ≤ (v 30).toInt ∧ (v 30).toInt ≤ 1 := hv 30
  have rg31 : 0 ≤ (v 31).toInt ∧ (v 31).toInt ≤ 1200 := hv 31
  have rg32 : 0 ≤ (v 32).toInt ∧ (v 32).toInt ≤ 7 := hv 32
  have rg33 : 0 ≤ (v 33).toInt ∧ (v 33).toInt ≤ 120 := hv 33
  have rgU : 0 ≤ (f 13 (Int32.toNatClampNeg (v 30))).toInt ∧ (f 13 (Int32.toNatClampNeg (v 30))).toInt ≤ 60 := hf 13 _ (show (Int32.toNatClampNeg (v 30)) < 2 from by rw [ow_tn]; omega)
  have hEn := hE.num (Or.inr rfl)
  refine W.widen (k := 0) (n := 0) (Nat.le_of_ble_eq_true rfl) (Nat.le_of_ble_eq_true rfl) ?_
  have jn_1 : ∀ (y0_1 : Int32) (H : Heap) (locs : List Loc) (ls : Array Slot), (0 ≤ y0_1.toInt ∧ y0_1.toInt ≤ 1) → va_P G vwCl (WMs cy mo h v nm f g) H → va_D A (WMs cy mo h v nm f g) → va_S A s.heap H locs → lv_has ls 6 [(0, .ref mo)] → W p l e (headSpec (.code yX12_unit cX12_unit 6 (some .boolean) :: TBg) ({ frames := 3, cells := 0, slots := 0, locals := 192 })).room s m ([.ref mo] : List Value).toArray below meth c H locs 0 0 (MQ below (va_Qi (fun (r : Int32) (u : (Nat → Int32) × Int64 × (Nat → Nat → Int32) × (Nat → Nat → Int64)) => MIv T u.1 ∧ MIf u.2.2.1 ∧ RI u.1 u.2.2.1 ∧ WL u.1 u.2.2.1 ∧ FV [4, 5, 6, 7, 8, 9, 31, 32, 33] v u.1 ∧ FF [13, 24, 25, 26, 27] f u.2.2.1 ∧ ((r.toInt = 0 ∨ r.toInt = 1) ∧ ((u.1 7).toInt ≤ (v 3).toInt)) ∧ (0 ≤ mz (v 3).toInt (u.1 7).toInt (u.1 8).toInt ∧ mz (v 3).toInt (u.1 7).toInt (u.1 8).toInt ≤ mz (v 3).toInt (v 7).toInt (v 8).toInt ∧ ((u.1 4).toInt ≠ 0 ∨ mz (v 3).toInt (u.1 7).toInt (u.1 8).toInt < mz (v 3).toInt (v 7).toInt (v 8).toInt)) ∧ ((u.1 4).toInt = 0 → EI r.toInt (v 30).toInt Fz (u.1 31).toInt (u.1 33).toInt (u.1 32).toInt (u.2.2.1 13 (Int32.toNatClampNeg (v 30))).toInt (u.2.2.1 26) (u.2.2.1 27) (u.2.2.1 24) (u.2.2.1 25)) ∧ (OUT Fz (600 * (v 30).toInt + 600) (f 24) (f 25) (u.2.2.1 24) (u.2.2.1 25))) (fun u t => Ex G A (WMs cy mo h u.1 u.2.1 u.2.2.1 u.2.2.2) t) A) ([.ref mo] : List Value).toArray s 0 0 A) (F0 m 36 ls [.int y0_1]) := by
    intro y0_1 H locs ls qf1_0 hP hD hS hl
    refine lv_istore_n (lv' := [(1, .int y0_1), (0, .ref mo)]) hx hb dX12_unit_36 rfl hl (by decide) rfl (fun ls hl => ?_)
    refine W.widen (k := 0) (n := 0) (Nat.le_of_ble_eq_true rfl) (Nat.le_of_ble_eq_true rfl) ?_
    have jn_2 : ∀ (y0_2 : Int32) (H : Heap) (locs : List Loc) (ls : Array Slot), (0 ≤ y0_2.toInt ∧ y0_2.toInt ≤ 1) → (y0_2.toInt = 0 ∨ (v 8).toInt = 3) → va_P G vwCl (WMs cy mo h v nm f g) H → va_D A (WMs cy mo h v nm f g) → va_S A s.heap H locs → lv_has ls 6 [(1, .int y0_1), (0, .ref mo)] → W p l e (headSpec (.code yX12_unit cX12_unit 6 (some .boolean) :: TBg) ({ frames := 3, cells := 0, slots := 0, locals := 192 })).room s m ([.ref mo] : List Value).toArray below meth c H locs 0 0 (MQ below (va_Qi (fun (r : Int32) (u : (Nat → Int32) × Int64 × (Nat → Nat → Int32) × (Nat → Nat → Int64)) => MIv T u.1 ∧ MIf u.2.2.1 ∧ RI u.1 u.2.2.1 ∧ WL u.1 u.2.2.1 ∧ FV [4, 5, 6, 7, 8, 9, 31, 32, 33] v u.1 ∧ FF [13, 24, 25, 26, 27] f u.2.2.1 ∧ ((r.toInt = 0 ∨ r.toInt = 1) ∧ ((u.1 7).toInt ≤ (v 3).toInt)) ∧ (0 ≤ mz (v 3).toInt (u.1 7).toInt (u.1 8).toInt ∧ mz (v 3).toInt (u.1 7).toInt (u.1 8).toInt ≤ mz (v 3).toInt (v 7).toInt (v 8).toInt ∧ ((u.1 4).toInt ≠ 0 ∨ mz (v 3).toInt (u.1 7).toInt (u.1 8).toInt < mz (v 3).toInt (v 7).toInt (v 8).toInt)) ∧ ((u.1 4).toInt = 0 → EI r.toInt (v 30).toInt Fz (u.1 31).toInt (u.1 33).toInt (u.1 32).toInt (u.2.2.1 13 (Int32.toNatClampNeg (v 30))).toInt (u.2.2.1 26) (u.2.2.1 27) (u.2.2.1 24) (u.2.2.1 25)) ∧ (OUT Fz (600 * (v 30).toInt + 600) (f 24) (f 25) (u.2.2.1 24) (u.2.2.1 25))) (fun u t => Ex G A (WMs cy mo h u.1 u.2.1 u.2.2.1 u.2.2.2) t) A) ([.ref mo] : List Value).toArray s 0 0 A) (F0 m 56 ls [.int y0_2]) := by
      intro y0_2 H locs ls qf2_0 qf2_1 hP hD hS hl
      refine lv_istore_n (lv' := [(2, .int y0_2), (1, .int y0_1), (0, .ref mo)]) hx hb dX12_unit_56 rfl hl (by decide) rfl (fun ls hl => ?_)
      refine lv_aload_n hx hb dX12_unit_57 rfl (lv_at hl 2 rfl) ?_
      refine lv_bipush (v := 40) hx hb dX12_unit_58 (by decide) ?_
      have hFc := fr_new hS hA
      refine va_calli (va_runV (As := [.int 40]) (rest := []) ⟨hx, hb, hml, hown, ht⟩ (m_stands l G cy _ mo h T v nm f g (40)  hv hf hR hL) (cwV 1 ht (gv k_244 k_245 k_246 k_61 k_243) rfl rfl rfl (by decide +kernel) ⟨Nat.le_of_ble_eq_true rfl, Nat.le_of_ble_eq_true rfl⟩) ⟨En.blind, va_recv hK hP (ci := 12) (q0 := 0) rfl rfl, fun U hU hW => ⟨rfl, En.of hU hW hP hK hD hN⟩⟩ rfl rfl hl.1 rfl (lv_room (Nat.le_of_ble_eq_true rfl)) dX12_unit_60 ⟨Nat.le_of_ble_eq_true rfl, Nat.le_of_ble_eq_true rfl⟩) hS (fun q _ h => hFc q h) hFc (fun r_u_3 u_3 t9 H locs ht9 hvm hw hB hz1 hk1 hS => ?_)
      have hP := fr_keep hP hk1
      have wu_3 := hw
      clear hFc hk1 hz1 hB hw
      refine lv_istore_n (lv' := [(3, .int r_u_3), (2, .int y0_2), (1, .int y0_1), (0, .ref mo)]) hx hb dX12_unit_63 rfl hl (by decide) rfl (fun ls hl => ?_)
      refine lv_aload_n hx hb dX12_unit_64 rfl (lv_at hl 3 rfl) ?_
      have hFc := fr_new hS hA
      refine va_calli (va_runV (As := []) (rest := []) ⟨hx, hb, hml, hown, ht⟩ (m_wordHere l G cy _ mo h T v nm f g   hv hf hR hL) (cwV 0 ht (gv k_248 k_249 k_250 k_61 k_247) rfl rfl rfl (by decide +kernel) ⟨Nat.le_of_ble_eq_true rfl, Nat.le_of_ble_eq_true rfl⟩) ⟨En.blind, va_recv hK hP (ci := 12) (q0 := 0) rfl rfl, fun U hU hW => ⟨rfl, En.of hU hW hP hK hD hN⟩⟩ rfl rfl hl.1 rfl (lv_room (Nat.le_of_ble_eq_true rfl)) dX12_unit_65 ⟨Nat.le_of_ble_eq_true rfl, Nat.le_of_ble_eq_true rfl⟩) hS (fun q _ h => hFc q h) hFc (fun r_u_4 u_4 t9 H locs ht9 hvm hw hB hz1 hk1 hS => ?_)
      have hP := fr_keep hP hk1
      obtain ⟨wu_4, xu_4_O⟩ := hw
      clear hFc hk1 hz1 hB
      replace wu_4 : (0 ≤ r_u_4.toInt ∧ r_u_4.toInt ≤ 119) ∧ (r_u_4.toInt = 0 ∨ (v 8).toInt = 3) := wu_4
      replace xu_4_O : okW r_u_4.toInt := by
        have h9 : okW r_u_4.toInt := xu_4_O
        exact h9
      refine lv_istore (lv' := [(4, .int r_u_4), (3, .int r_u_3), (2, .int y0_2), (1, .int y0_1), (0, .ref mo)]) hx hb dX12_unit_68 hl (by decide) rfl (fun ls hl => ?_)
      refine W.widen (k := 0) (n := 0) (Nat.le_of_ble_eq_true rfl) (Nat.le_of_ble_eq_true rfl) ?_
      have jn_5 : ∀ (v5 : Nat → Int32) (nm5 : Int64) (H : Heap) (locs : List Loc) (ls : Array Slot), MIv T v5 → FV [4, 5] v v5 → ((v5 4).toInt ≠ 0 ∨ ((v 8).toInt ≠ 0 ∧ (y0_2.toInt = 1 ∨ (f 13 (Int32.toNatClampNeg (v 30))).toInt ≠ 60) ∧ ((y0_2.toInt = 0 ∧ r_u_3.toInt = 0) ∨ (v 32).toInt ≠ 7))) → va_P G vwCl (WMs cy mo h v5 nm5 f g) H → va_D A (WMs cy mo h v5 nm5 f g) → va_S A s.heap H locs → lv_has ls 6 [(4, .int r_u_4), (3, .int r_u_3), (2, .int y0_2), (1, .int y0_1), (0, .ref mo)] → W p l e (headSpec (.code yX12_unit cX12_unit 6 (some .boolean) :: TBg) ({ frames := 3, cells := 0, slots := 0, locals := 192 })).room s m ([.ref mo] : List Value).toArray below meth c H locs 0 0 (MQ below (va_Qi (fun (r : Int32) (u : (Nat → Int32) × Int64 × (Nat → Nat → Int32) × (Nat → Nat → Int64)) => MIv T u.1 ∧ MIf u.2.2.1 ∧ RI u.1 u.2.2.1 ∧ WL u.1 u.2.2.1 ∧ FV [4, 5, 6, 7, 8, 9, 31, 32, 33] v u.1 ∧ FF [13, 24, 25, 26, 27] f u.2.2.1 ∧ ((r.toInt = 0 ∨ r.toInt = 1) ∧ ((u.1 7).toInt ≤ (v 3).toInt)) ∧ (0 ≤ mz (v 3).toInt (u.1 7).toInt (u.1 8).toInt ∧ mz (v 3).toInt (u.1 7).toInt (u.1 8).toInt ≤ mz (v 3).toInt (v 7).toInt (v 8).toInt ∧ ((u.1 4).toInt ≠ 0 ∨ mz (v 3).toInt (u.1 7).toInt (u.1 8).toInt < mz (v 3).toInt (v 7).toInt (v 8).toInt)) ∧ ((u.1 4).toInt = 0 → EI r.toInt (v 30).toInt Fz (u.1 31).toInt (u.1 33).toInt (u.1 32).toInt (u.2.2.1 13 (Int32.toNatClampNeg (v 30))).toInt (u.2.2.1 26) (u.2.2.1 27) (u.2.2.1 24) (u.2.2.1 25)) ∧ (OUT Fz (600 * (v 30).toInt + 600) (f 24) (f 25) (u.2.2.1 24) (u.2.2.1 25))) (fun u t => Ex G A (WMs cy mo h u.1 u.2.1 u.2.2.1 u.2.2.2) t) A) ([.ref mo] : List Value).toArray s 0 0 A) (F0 m 126 ls []) := by
        intro v5 nm5 H locs ls hv hV_5 qf5_0 hP hD hS hl
        replace hR : RI v5 f := RI.fv hR hV_5 (by decide)
        replace hL : WL v5 f := WL.fv hL hV_5 (by decide) (by decide)
        replace hV_0 := FV.tr hV_0 hV_5 (by decide)
        refine lv_aload_n hx hb dX12_unit_126 rfl (lv_at hl 4 rfl) ?_
        have hFc := fr_new hS hA
        refine va_calli (va_runV (As := []) (rest := []) ⟨hx, hb, hml, hown, ht⟩ (m_isGood l G cy _ mo h T v5 nm5 f g   hv hf hR hL) (cwV 0 ht (gv k_224 k_225 k_226 k_61 k_223) rfl rfl rfl (by decide +kernel) ⟨Nat.le_of_ble_eq_true rfl, Nat.le_of_ble_eq_true rfl⟩) ⟨En.blind, va_recv hK hP (ci := 12) (q0 := 0) rfl rfl, fun U hU hW => ⟨rfl, En.of hU hW hP hK hD hN⟩⟩ rfl rfl hl.1 rfl (lv_room (Nat.le_of_ble_eq_true rfl)) dX12_unit_127 ⟨Nat.le_of_ble_eq_true rfl, Nat.le_of_ble_eq_true rfl⟩) hS (fun q _ h => hFc q h) hFc (fun r_u_6 u_6 t9 H locs ht9 hvm hw hB hz1 hk1 hS => ?_)
        have hP := fr_keep hP hk1
        have wu_6 := hw
        clear hFc hk1 hz1 hB hw
        replace wu_6 : (r_u_6.toInt = 0 ∨ r_u_6.toInt = 1) ∧ ((r_u_6.toInt = 1 ∧ (v5 4).toInt = 0) ∨ (r_u_6.toInt = 0 ∧ (v5 4).toInt ≠ 0)) := wu_6
        refine lv_if_ne (tgt := 135) hx hb dX12_unit_130 (by decide) (fun c_7 => ?_) (fun c_7 => ?_)
        · have q_8 : ¬ r_u_6.toInt = (0 : Int32).toInt := by have := (not_congr (ow_eq _ _)).mp c_7; omega
          refine lv_aload_n hx hb dX12_unit_135 rfl (lv_at hl 4 rfl) ?_
          refine mg_13 hx hb ht hown hK hP dX12_unit_136 ?_
          refine lv_aload_n hx hb dX12_unit_139 rfl (lv_at hl 4 rfl) ?_
          refine mg_30 hx hb ht hown hK hP dX12_unit_140 ?_
          refine ow_top (v 30) (hV_5 30 (by decide)) ?_
          have q_9 : 0 ≤ (v 30).toInt ∧ (v 30).toInt ≤ 1 := by have h9 : v5 30 = (v 30) := (hV_5 30 (by decide)); rw [← h9]; exact hv 30
          refine lv_dup2_11 hx hb dX12_unit_143 rfl rfl ?_
          have q_10 : vp_in (v 30) 2 := vp_in_iff.mpr ⟨by omega, by omega⟩
          refine ml_13 hx hb hK hP q_10 dX12_unit_144 ?_
          refine lv_topi (fun v_11 ev_11 => ?_)
          have q_12 : 0 ≤ v_11.toInt ∧ v_11.toInt ≤ 60 := by rw [ev_11]; exact MIf.rd 13 hf q_10
          have q_13 : v_11.toInt = ((f 13) (Int32.toNatClampNeg (v 30))).toInt := (congrArg Int32.toInt ev_11).trans (congrArg (fun z : Nat → Int32 => (z (Int32.toNatClampNeg (v 30))).toInt) (show f 13 = (f 13) from rfl))
          refine W.widen (k := 0) (n := 0) (Nat.le_of_ble_eq_true rfl) (Nat.le_of_ble_eq_true rfl) ?_
          have jn_14 : ∀ (y0_14 : Int32) (H : Heap) (locs : List Loc) (ls : Array Slot), (0 ≤ y0_14.toInt ∧ y0_14.toInt ≤ 1) → (y0_14.toInt = 1 - y0_2.toInt) → va_P G vwCl (WMs cy mo h v5 nm5 f g) H → va_D A (WMs cy mo h v5 nm5 f g) → va_S A s.heap H locs → lv_has ls 6 [(4, .int r_u_4), (3, .int r_u_3), (2, .int y0_2), (1, .int y0_1), (0, .ref mo)] → W p l e (headSpec (.code yX12_unit cX12_unit 6 (some .boolean) :: TBg) ({ frames := 3, cells := 0, slots := 0, locals := 192 })).room s m ([.ref mo] : List Value).toArray below meth c H locs 0 0 (MQ below (va_Qi (fun (r : Int32) (u : (Nat → Int32) × Int64 × (Nat → Nat → Int32) × (Nat → Nat → Int64)) => MIv T u.1 ∧ MIf u.2.2.1 ∧ RI u.1 u.2.2.1 ∧ WL u.1 u.2.2.1 ∧ FV [4, 5, 6, 7, 8, 9, 31, 32, 33] v u.1 ∧ FF [13, 24, 25, 26, 27] f u.2.2.1 ∧ ((r.toInt = 0 ∨ r.toInt = 1) ∧ ((u.1 7).toInt ≤ (v 3).toInt)) ∧ (0 ≤ mz (v 3).toInt (u.1 7).toInt (u.1 8).toInt ∧ mz (v 3).toInt (u.1 7).toInt (u.1 8).toInt ≤ mz (v 3).toInt (v 7).toInt (v 8).toInt ∧ ((u.1 4).toInt ≠ 0 ∨ mz (v 3).toInt (u.1 7).toInt (u.1 8).toInt < mz (v 3).toInt (v 7).toInt (v 8).toInt)) ∧ ((u.1 4).toInt = 0 → EI r.toInt (v 30).toInt Fz (u.1 31).toInt (u.1 33).toInt (u.1 32).toInt (u.2.2.1 13 (Int32.toNatClampNeg (v 30))).toInt (u.2.2.1 26) (u.2.2.1 27) (u.2.2.1 24) (u.2.2.1 25)) ∧ (OUT Fz (600 * (v 30).toInt + 600) (f 24) (f 25) (u.2.2.1 24) (u.2.2.1 25))) (fun u t => Ex G A (WMs cy mo h u.1 u.2.1 u.2.2.1 u.2.2.2) t) A) ([.ref mo] : List Value).toArray s 0 0 A) (F0 m 154 ls [.int y0_14, .int v_11, .int (v 30), .ref (h 13)]) := by
            intro y0_14 H locs ls qf14_0 qf14_1 hP hD hS hl
            refine lv_iadd hx hb dX12_unit_154 ?_
            refine lv_topi (fun v_15 ev_15 => ?_)
            have q_16 : v_15.toInt = v_11.toInt + y0_14.toInt := ow_add ev_15 (by omega) (by omega)
            have q_17 : vp_in (v 30) 2 := vp_in_iff.mpr ⟨by omega, by omega⟩
            refine ms_13 hx hb hK hP hD hS q_17 dX12_unit_155 (fun H locs hP hD hS => ?_)
            replace hf := MIf.up 13 (i := (Int32.toNatClampNeg (v 30))) hf (show 0 ≤ v_15.toInt ∧ v_15.toInt ≤ 60 from by omega)
            replace hF_0 := FF.up hF_0 13 (upd (f 13) (Int32.toNatClampNeg (v 30)) v_15) (by decide)
            replace hL : WL v5 (va_up f 13 (upd (f 13) (Int32.toNatClampNeg (v 30)) v_15)) := WL.upf 13 hL (by decide)
            replace hR : RI v5 (va_up f 13 (upd (f 13) (Int32.toNatClampNeg (v 30)) v_15)) := RI.up 13 hR (by decide)
            have hU1 : ((upd (f 13) (Int32.toNatClampNeg (v 30)) v_15) (Int32.toNatClampNeg (v 30))).toInt = v_15.toInt := by rw [pk_us]
            refine lv_aload_n hx hb dX12_unit_156 rfl (lv_at hl 4 rfl) ?_
            refine mg_9 hx hb ht hown hK hP dX12_unit_157 ?_
            refine ow_top (v 9) (hV_5 9 (by decide)) ?_
            refine lv_istore (lv' := [(5, .int (v 9)), (4, .int r_u_4), (3, .int r_u_3), (2, .int y0_2), (1, .int y0_1), (0, .ref mo)]) hx hb dX12_unit_160 hl (by decide) rfl (fun ls hl => ?_)
            refine lv_aload_n hx hb dX12_unit_162 rfl (lv_at hl 5 rfl) ?_
            have hFc := fr_free hD hS hA
            refine va_callv (va_runV (As := []) (rest := []) ⟨hx, hb, hml, hown, ht⟩ (m_goOn l G cy _ mo h T v5 nm5 (va_up f 13 (upd (f 13) (Int32.toNatClampNeg (v 30)) v_15)) g   hv hf hR hL (show (v5 7).toInt ≤ (v5 3).toInt from by rw [(show v5 7 = (v 7) from (hV_5 7 (by decide))), (show v5 3 = (v 3) from (hV_5 3 (by decide)))]; omega)) (cwV 0 ht (gv k_232 k_233 k_234 k_61 k_231) rfl rfl rfl (by decide +kernel) ⟨Nat.le_of_ble_eq_true rfl, Nat.le_of_ble_eq_true rfl⟩) ⟨En.blind, va_recv hK hP (ci := 12) (q0 := 0) rfl rfl, fun U hU hW => ⟨rfl, En.of hU hW hP hK hD hN⟩⟩ rfl rfl hl.1 rfl (lv_room (Nat.le_of_ble_eq_true rfl)) dX12_unit_163 ⟨Nat.le_of_ble_eq_true rfl, Nat.le_of_ble_eq_true rfl⟩) hS (fun q _ h => hFc q h) hFc (fun u_18 t9 H locs ht9 hvm hw hB hz1 hk1 hS => ?_)
            obtain ⟨v18, nm18⟩ := u_18
            obtain ⟨hP1, hD1⟩ := hB
            rw [ht9] at hP1
            obtain ⟨hv, xu_18V, wu_18, xu_18_M⟩ := hw
            dsimp only at hv xu_18V wu_18 xu_18_M
            have hP : va_P G vwCl (WMs cy mo h v18 nm18 (va_up f 13 (upd (f 13) (Int32.toNatClampNeg (v 30)) v_15)) g) H := hP1
            have hD : va_D A (WMs cy mo h v18 nm18 (va_up f 13 (upd (f 13) (Int32.toNatClampNeg (v 30)) v_15)) g) := hD1.weaken (fun _ _ _ h => hFc _ h)
            replace hR : RI v18 (va_up f 13 (upd (f 13) (Int32.toNatClampNeg (v 30)) v_15)) := RI.fv hR xu_18V (by decide)
            replace hL : WL v18 (va_up f 13 (upd (f 13) (Int32.toNatClampNeg (v 30)) v_15)) := WL.fv hL xu_18V (by decide) (by decide)
            replace hV_0 := FV.tr hV_0 xu_18V (by decide)
            clear hFc hk1 hz1 hP1 hD1
            replace wu_18 : ((v18 7).toInt ≤ (v 3).toInt ∧ (((v18 8).toInt = 0 ∧ (v18 7).toInt = (v 3).toInt) ∨ ((v18 8).toInt ≠ 0 ∧ (v 7).toInt < (v18 7).toInt))) := by
              have h9 : ((v18 7).toInt ≤ (v5 3).toInt ∧ (((v18 8).toInt = 0 ∧ (v18 7).toInt = (v5 3).toInt) ∨ ((v18 8).toInt ≠ 0 ∧ (v5 7).toInt < (v18 7).toInt))) := wu_18
              rw [(show v5 3 = (v 3) from (hV_5 3 (by decide))), (show v5 7 = (v 7) from (hV_5 7 (by decide)))] at h9
              exact h9
            replace xu_18_M : 0 ≤ mz (v 3).toInt (v18 7).toInt (v18 8).toInt ∧ mz (v 3).toInt (v18 7).toInt (v18 8).toInt ≤ mz (v 3).toInt (v 7).toInt (v 8).toInt ∧ ((v 8).toInt = 0 ∨ mz (v 3).toInt (v18 7).toInt (v18 8).toInt < mz (v 3).toInt (v 7).toInt (v 8).toInt) := by
              have h9 : 0 ≤ mz (v5 3).toInt (v18 7).toInt (v18 8).toInt ∧ mz (v5 3).toInt (v18 7).toInt (v18 8).toInt ≤ mz (v5 3).toInt (v5 7).toInt (v5 8).toInt ∧ ((v5 8).toInt = 0 ∨ mz (v5 3).toInt (v18 7).toInt (v18 8).toInt < mz (v5 3).toInt (v5 7).toInt (v5 8).toInt) := xu_18_M
              rw [(show v5 3 = (v 3) from (hV_5 3 (by decide))), (show v5 7 = (v 7) from (hV_5 7 (by decide))), (show v5 8 = (v 8) from (hV_5 8 (by decide)))] at h9
              exact h9
            refine lv_iload_n hx hb dX12_unit_166 rfl (lv_at hl 3 rfl) ?_
            refine lv_if_ne (tgt := 174) hx hb dX12_unit_167 (by decide) (fun c_19 => ?_) (fun c_19 => ?_)
            · have q_20 : ¬ y0_2.toInt = (0 : Int32).toInt := by have := (not_congr (ow_eq _ _)).mp c_19; omega
              refine lv_aload_n hx hb dX12_unit_174 rfl (lv_at hl 5 rfl) ?_
              refine lv_iload_n hx hb dX12_unit_175 rfl (lv_at hl 3 rfl) ?_
              refine lv_if_eq (tgt := 183) hx hb dX12_unit_176 (by decide) (fun c_21 => ?_) (fun c_21 => ?_)
              · have q_22 : y0_2.toInt = (0 : Int32).toInt := (ow_eq _ _).mp c_21
                exfalso
                omega
              · have q_23 : ¬ y0_2.toInt = (0 : Int32).toInt := by have := (not_congr (ow_eq _ _)).mp c_21; omega
                refine lv_iconst (v := 3) hx hb dX12_unit_179 (by decide) ?_
                refine lv_goto (tgt := 185) hx hb dX12_unit_180 (by decide) ?_
                refine lv_bipush (v := 126) hx hb dX12_unit_185 (by decide) ?_
                have hFc := fr_free hD hS hA
                refine va_callv (va_runV (As := [.int 3, .int 126]) (rest := []) ⟨hx, hb, hml, hown, ht⟩ (m_pushE l G cy _ mo h T v18 nm18 (va_up f 13 (upd (f 13) (Int32.toNatClampNeg (v 30)) v_15)) g (3) (126) ((v 33)) hv hf hR hL ((xu_18V 33 (by decide)).trans (hV_5 33 (by decide))) (show 0 ≤ ((v 33)).toInt ∧ ((v 33)).toInt ≤ 119 from by omega)) (cwV 2 ht (gv k_252 k_253 k_254 k_61 k_251) rfl rfl rfl (by decide +kernel) ⟨Nat.le_of_ble_eq_true rfl, Nat.le_of_ble_eq_true rfl⟩) ⟨En.blind, va_recv hK hP (ci := 12) (q0 := 0) rfl rfl, fun U hU hW => ⟨rfl, En.of hU hW hP hK hD hN⟩⟩ rfl rfl hl.1 rfl (lv_room (Nat.le_of_ble_eq_true rfl)) dX12_unit_187 ⟨Nat.le_of_ble_eq_true rfl, Nat.le_of_ble_eq_true rfl⟩) hS (fun q _ h => hFc q h) hFc (fun u_24 t9 H locs ht9 hvm hw hB hz1 hk1 hS => ?_)
                obtain ⟨hP1, hD1⟩ := hB
                rw [ht9] at hP1
                have wu_24 := hw
                have q_26 : ((v 33) + 1).toInt = (v 33).toInt + 1 := ow_add rfl (by omega) (by omega)
                replace hv := MIv.up 33 hv (show 0 ≤ ((v 33) + 1).toInt ∧ ((v 33) + 1).toInt ≤ 120 from by omega)
                replace hR : RI (va_up v18 33 ((v 33) + 1)) (va_up f 13 (upd (f 13) (Int32.toNatClampNeg (v 30)) v_15)) := RI.upv 33 hR (by decide)
                replace hL : WL (va_up v18 33 ((v 33) + 1)) (va_up f 13 (upd (f 13) (Int32.toNatClampNeg (v 30)) v_15)) := WL.upv 33 hL (by decide)
                replace hV_0 := FV.up hV_0 33 ((v 33) + 1) (by decide)
                replace hf := MIf.up 26 (i := (Int32.toNatClampNeg (v 33))) hf (ow_any (3 : Int32))
                replace hF_0 := FF.up hF_0 26 (upd ((va_up f 13 (upd (f 13) (Int32.toNatClampNeg (v 30)) v_15)) 26) (Int32.toNatClampNeg (v 33)) (3 : Int32)) (by decide)
                replace hR : RI (va_up v18 33 ((v 33) + 1)) (va_up (va_up f 13 (upd (f 13) (Int32.toNatClampNeg (v 30)) v_15)) 26 (upd ((va_up f 13 (upd (f 13) (Int32.toNatClampNeg (v 30)) v_15)) 26) (Int32.toNatClampNeg (v 33)) (3 : Int32))) := RI.up 26 hR (by decide)
                replace hL : WL (va_up v18 33 ((v 33) + 1)) (va_up (va_up f 13 (upd (f 13) (Int32.toNatClampNeg (v 30)) v_15)) 26 (upd ((va_up f 13 (upd (f 13) (Int32.toNatClampNeg (v 30)) v_15)) 26) (Int32.toNatClampNeg (v 33)) (3 : Int32))) := WL.upf 26 hL (by decide)
                replace hf := MIf.up 27 (i := (Int32.toNatClampNeg (v 33))) hf (ow_any (126 : Int32))
                replace hF_0 := FF.up hF_0 27 (upd ((va_up (va_up f 13 (upd (f 13) (Int32.toNatClampNeg (v 30)) v_15)) 26 (upd ((va_up f 13 (upd (f 13) (Int32.toNatClampNeg (v 30)) v_15)) 26) (Int32.toNatClampNeg (v 33)) (3 : Int32))) 27) (Int32.toNatClampNeg (v 33)) (126 : Int32)) (by decide)
                replace hR : RI (va_up v18 33 ((v 33) + 1)) (va_up (va_up (va_up f 13 (upd (f 13) (Int32.toNatClampNeg (v 30)) v_15)) 26 (upd ((va_up f 13 (upd (f 13) (Int32.toNatClampNeg (v 30)) v_15)) 26) (Int32.toNatClampNeg (v 33)) (3 : Int32))) 27 (upd ((va_up (va_up f 13 (upd (f 13) (Int32.toNatClampNeg (v 30)) v_15)) 26 (upd ((va_up f 13 (upd (f 13) (Int32.toNatClampNeg (v 30)) v_15)) 26) (Int32.toNatClampNeg (v 33)) (3 : Int32))) 27) (Int32.toNatClampNeg (v 33)) (126 : Int32))) := RI.up 27 hR (by decide)
                replace hL : WL (va_up v18 33 ((v 33) + 1)) (va_up (va_up (va_up f 13 (upd (f 13) (Int32.toNatClampNeg (v 30)) v_15)) 26 (upd ((va_up f 13 (upd (f 13) (Int32.toNatClampNeg (v 30)) v_15)) 26) (Int32.toNatClampNeg (v 33)) (3 : Int32))) 27 (upd ((va_up (va_up f 13 (upd (f 13) (Int32.toNatClampNeg (v 30)) v_15)) 26 (upd ((va_up f 13 (upd (f 13) (Int32.toNatClampNeg (v 30)) v_15)) 26) (Int32.toNatClampNeg (v 33)) (3 : Int32))) 27) (Int32.toNatClampNeg (v 33)) (126 : Int32))) := WL.upf 27 hL (by decide)
                have hP : va_P G vwCl (WMs cy mo h (va_up v18 33 ((v 33) + 1)) nm18 (va_up (va_up (va_up f 13 (upd (f 13) (Int32.toNatClampNeg (v 30)) v_15)) 26 (upd ((va_up f 13 (upd (f 13) (Int32.toNatClampNeg (v 30)) v_15)) 26) (Int32.toNatClampNeg (v 33)) (3 : Int32))) 27 (upd ((va_up (va_up f 13 (upd (f 13) (Int32.toNatClampNeg (v 30)) v_15)) 26 (upd ((va_up f 13 (upd (f 13) (Int32.toNatClampNeg (v 30)) v_15)) 26) (Int32.toNatClampNeg (v 33)) (3 : Int32))) 27) (Int32.toNatClampNeg (v 33)) (126 : Int32))) g) H := hP1
                have hD : va_D A (WMs cy mo h (va_up v18 33 ((v 33) + 1)) nm18 (va_up (va_up (va_up f 13 (upd (f 13) (Int32.toNatClampNeg (v 30)) v_15)) 26 (upd ((va_up f 13 (upd (f 13) (Int32.toNatClampNeg (v 30)) v_15)) 26) (Int32.toNatClampNeg (v 33)) (3 : Int32))) 27 (upd ((va_up (va_up f 13 (upd (f 13) (Int32.toNatClampNeg (v 30)) v_15)) 26 (upd ((va_up f 13 (upd (f 13) (Int32.toNatClampNeg (v 30)) v_15)) 26) (Int32.toNatClampNeg (v 33)) (3 : Int32))) 27) (Int32.toNatClampNeg (v 33)) (126 : Int32))) g) := hD1.weaken (fun _ _ _ h => hFc _ h)
                clear hFc hk1 hz1 hP1 hD1 hw
                refine lv_aload_n hx hb dX12_unit_190 rfl (lv_at hl 5 rfl) ?_
                refine lv_dup hx hb dX12_unit_191 rfl ?_
                refine mg_32 hx hb ht hown hK hP dX12_unit_192 ?_
                refine ow_top (v 32) ((xu_18V 32 (by decide)).trans (hV_5 32 (by decide))) ?_
                have q_27 : 0 ≤ (v 32).toInt ∧ (v 32).toInt ≤ 7 := by have h9 : (va_up v18 33 ((v 33) + 1)) 32 = (v 32) := ((xu_18V 32 (by decide)).trans (hV_5 32 (by decide))); rw [← h9]; exact hv 32
                refine lv_iconst (v := 1) hx hb dX12_unit_195 (by decide) ?_
                refine lv_iadd hx hb dX12_unit_196 ?_
                refine lv_topi (fun v_28 ev_28 => ?_)
                have q_29 : v_28.toInt = (v 32).toInt + (1 : Int32).toInt := ow_add ev_28 (by omega) (by omega)
                refine mp_32 hx hb ht hown hK hP hD hS dX12_unit_197 (fun H locs hP hD hS => ?_)
                replace hv := MIv.up 32 hv (show 0 ≤ v_28.toInt ∧ v_28.toInt ≤ 7 from by omega)
                replace hL : WL (va_up (va_up v18 33 ((v 33) + 1)) 32 v_28) (va_up (va_up (va_up f 13 (upd (f 13) (Int32.toNatClampNeg (v 30)) v_15)) 26 (upd ((va_up f 13 (upd (f 13) (Int32.toNatClampNeg (v 30)) v_15)) 26) (Int32.toNatClampNeg (v 33)) (3 : Int32))) 27 (upd ((va_up (va_up f 13 (upd (f 13) (Int32.toNatClampNeg (v 30)) v_15)) 26 (upd ((va_up f 13 (upd (f 13) (Int32.toNatClampNeg (v 30)) v_15)) 26) (Int32.toNatClampNeg (v 33)) (3 : Int32))) 27) (Int32.toNatClampNeg (v 33)) (126 : Int32))) := WL.upv 32 hL (by decide)
                replace hR : RI (va_up (va_up v18 33 ((v 33) + 1)) 32 v_28) (va_up (va_up (va_up f 13 (upd (f 13) (Int32.toNatClampNeg (v 30)) v_15)) 26 (upd ((va_up f 13 (upd (f 13) (Int32.toNatClampNeg (v 30)) v_15)) 26) (Int32.toNatClampNeg (v 33)) (3 : Int32))) 27 (upd ((va_up (va_up f 13 (upd (f 13) (Int32.toNatClampNeg (v 30)) v_15)) 26 (upd ((va_up f 13 (upd (f 13) (Int32.toNatClampNeg (v 30)) v_15)) 26) (Int32.toNatClampNeg (v 33)) (3 : Int32))) 27) (Int32.toNatClampNeg (v 33)) (126 : Int32))) := RI.upv 32 hR (by decide)
                replace hV_0 := FV.up hV_0 32 v_28 (by decide)
                refine lv_iconst (v := 1) hx hb dX12_unit_200 (by decide) ?_
                refine W.widen (k := 0) (n := 0) (Nat.le_of_ble_eq_true rfl) (Nat.le_of_ble_eq_true rfl) ?_
                exact W.zret (v := 1) hx hb hr rfl (fun t ht9 hW => ⟨⟨1, ((va_up (va_up v18 33 ((v 33) + 1)) 32 v_28), nm18, (va_up (va_up (va_up f 13 (upd (f 13) (Int32.toNatClampNeg (v 30)) v_15)) 26 (upd ((va_up f 13 (upd (f 13) (Int32.toNatClampNeg (v 30)) v_15)) 26) (Int32.toNatClampNeg (v 33)) (3 : Int32))) 27 (upd ((va_up (va_up f 13 (upd (f 13) (Int32.toNatClampNeg (v 30)) v_15)) 26 (upd ((va_up f 13 (upd (f 13) (Int32.toNatClampNeg (v 30)) v_15)) 26) (Int32.toNatClampNeg (v 33)) (3 : Int32))) 27) (Int32.toNatClampNeg (v 33)) (126 : Int32))), g), rfl, ⟨hv, hf, hR, hL, hV_0, hF_0, ⟨(by omega), (show (v18 7).toInt ≤ (v 3).toInt from by first | omega | (subst_vars; first | rfl | omega))⟩, (show 0 ≤ mz (v 3).toInt (v18 7).toInt (v18 8).toInt ∧ mz (v 3).toInt (v18 7).toInt (v18 8).toInt ≤ mz (v 3).toInt (v 7).toInt (v 8).toInt ∧ ((v18 4).toInt ≠ 0 ∨ mz (v 3).toInt (v18 7).toInt (v18 8).toInt < mz (v 3).toInt (v 7).toInt (v 8).toInt) from by rw [(show v18 4 = (v5 4) from (xu_18V 4 (by decide)))]; omega), (show (v18 4).toInt = 0 → EI (1 : Int32).toInt (v 30).toInt Fz (v18 31).toInt ((v 33) + 1).toInt v_28.toInt ((upd (f 13) (Int32.toNatClampNeg (v 30)) v_15) (Int32.toNatClampNeg (v 30))).toInt (upd (f 26) (Int32.toNatClampNeg (v 33)) (3 : Int32)) (upd (f 27) (Int32.toNatClampNeg (v 33)) (126 : Int32)) (f 24) (f 25) from by rw [(show v18 4 = (v5 4) from (xu_18V 4 (by decide))), (show v18 31 = (v 31) from ((xu_18V 31 (by decide)).trans (hV_5 31 (by decide))))]; exact fun h9 => EI.cast (EI.grow hE (by omega) (by omega) (by omega)) (by omega) (by omega) (by omega) (by omega) rfl), (show OUT Fz (600 * (v 30).toInt + 600) (f 24) (f 25) (f 24) (f 25) from by exact OUT.rf)⟩, ⟨by rw [ht9]; exact hP, hD⟩⟩, hS.F ht9⟩) hS.2.2 dX12_unit_201
            · have q_30 : y0_2.toInt = (0 : Int32).toInt := (ow_eq _ _).mp c_19
              refine lv_iload_n hx hb dX12_unit_170 rfl (lv_at hl 2 rfl) ?_
              refine lv_if_eq (tgt := 202) hx hb dX12_unit_171 (by decide) (fun c_31 => ?_) (fun c_31 => ?_)
              · have q_32 : r_u_3.toInt = (0 : Int32).toInt := (ow_eq _ _).mp c_31
                refine W.widen (k := 0) (n := 0) (Nat.le_of_ble_eq_true rfl) (Nat.le_of_ble_eq_true rfl) ?_
                have jn_33 : ∀ (x5_33 : Int32) (v33 : Nat → Int32) (nm33 : Int64) (H : Heap) (locs : List Loc) (ls : Array Slot), MIv T v33 → FV [4, 5, 6, 7, 8, 9] v18 v33 → ((v33 7).toInt ≤ (v 3).toInt ∧ 0 ≤ mz (v 3).toInt (v33 7).toInt (v33 8).toInt ∧ mz (v 3).toInt (v33 7).toInt (v33 8).toInt < mz (v 3).toInt (v 7).toInt (v 8).toInt) → ((v33 4).toInt ≠ 0 ∨ (¬ r_u_4.toInt = 105 ∧ ¬ r_u_4.toInt = 98 ∧ ¬ r_u_4.toInt = 101) ∨ (0 ≤ x5_33.toInt ∧ x5_33.toInt ≤ 13)) → va_P G vwCl (WMs cy mo h v33 nm33 (va_up f 13 (upd (f 13) (Int32.toNatClampNeg (v 30)) v_15)) g) H → va_D A (WMs cy mo h v33 nm33 (va_up f 13 (upd (f 13) (Int32.toNatClampNeg (v 30)) v_15)) g) → va_S A s.heap H locs → lv_has ls 6 [(5, .int x5_33), (4, .int r_u_4), (3, .int r_u_3), (2, .int y0_2), (1, .int y0_1), (0, .ref mo)] → W p l e (headSpec (.code yX12_unit cX12_unit 6 (some .boolean) :: TBg) ({ frames := 3, cells := 0, slots := 0, locals := 192 })).room s m ([.ref mo] : List Value).toArray below meth c H locs 0 0 (MQ below (va_Qi (fun (r : Int32) (u : (Nat → Int32) × Int64 × (Nat → Nat → Int32) × (Nat → Nat → Int64)) => MIv T u.1 ∧ MIf u.2.2.1 ∧ RI u.1 u.2.2.1 ∧ WL u.1 u.2.2.1 ∧ FV [4, 5, 6, 7, 8, 9, 31, 32, 33] v u.1 ∧ FF [13, 24, 25, 26, 27] f u.2.2.1 ∧ ((r.toInt = 0 ∨ r.toInt = 1) ∧ ((u.1 7).toInt ≤ (v 3).toInt)) ∧ (0 ≤ mz (v 3).toInt (u.1 7).toInt (u.1 8).toInt ∧ mz (v 3).toInt (u.1 7).toInt (u.1 8).toInt ≤ mz (v 3).toInt (v 7).toInt (v 8).toInt ∧ ((u.1 4).toInt ≠ 0 ∨ mz (v 3).toInt (u.1 7).toInt (u.1 8).toInt < mz (v 3).toInt (v 7).toInt (v 8).toInt)) ∧ ((u.1 4).toInt = 0 → EI r.toInt (v 30).toInt Fz (u.1 31).toInt (u.1 33).toInt (u.1 32).toInt (u.2.2.1 13 (Int32.toNatClampNeg (v 30))).toInt (u.2.2.1 26) (u.2.2.1 27) (u.2.2.1 24) (u.2.2.1 25)) ∧ (OUT Fz (600 * (v 30).toInt + 600) (f 24) (f 25) (u.2.2.1 24) (u.2.2.1 25))) (fun u t => Ex G A (WMs cy mo h u.1 u.2.1 u.2.2.1 u.2.2.2) t) A) ([.ref mo] : List Value).toArray s 0 0 A) (F0 m 269 ls []) := by
                  intro x5_33 v33 nm33 H locs ls hv hV_33 qf33_0 qf33_1 hP hD hS hl
                  replace hR : RI v33 (va_up f 13 (upd (f 13) (Int32.toNatClampNeg (v 30)) v_15)) := RI.fv hR hV_33 (by decide)
                  replace hL : WL v33 (va_up f 13 (upd (f 13) (Int32.toNatClampNeg (v 30)) v_15)) := WL.fv hL hV_33 (by decide) (by decide)
                  replace hV_0 := FV.tr hV_0 hV_33 (by decide)
                  refine lv_aload_n hx hb dX12_unit_269 rfl (lv_at hl 5 rfl) ?_
                  refine lv_iload hx hb dX12_unit_270 (lv_at hl 1 rfl) ?_
                  refine lv_if_ne (tgt := 280) hx hb dX12_unit_272 (by decide) (fun c_34 => ?_) (fun c_34 => ?_)
                  · have q_35 : ¬ r_u_4.toInt = (0 : Int32).toInt := by have := (not_congr (ow_eq _ _)).mp c_34; omega
                    refine lv_iload hx hb dX12_unit_280 (lv_at hl 1 rfl) ?_
                    refine lv_iload hx hb dX12_unit_282 (lv_at hl 0 rfl) ?_
                    have hFc := fr_free hD hS hA
                    refine va_callv (va_runV (As := [.int r_u_4, .int x5_33]) (rest := []) ⟨hx, hb, hml, hown, ht⟩ (m_emit l G cy _ mo h T v33 nm33 (va_up f 13 (upd (f 13) (Int32.toNatClampNeg (v 30)) v_15)) g r_u_4 x5_33 ((v 31)) hv hf hR hL ((hV_33 31 (by decide)).trans ((xu_18V 31 (by decide)).trans (hV_5 31 (by decide)))) (show 0 ≤ ((v 31)).toInt ∧ ((v 31)).toInt ≤ 1199 from by omega)) (cwV 2 ht (gv k_256 k_257 k_258 k_61 k_255) rfl rfl rfl (by decide +kernel) ⟨Nat.le_of_ble_eq_true rfl, Nat.le_of_ble_eq_true rfl⟩) ⟨En.blind, va_recv hK hP (ci := 12) (q0 := 0) rfl rfl, fun U hU hW => ⟨rfl, En.of hU hW hP hK hD hN⟩⟩ rfl rfl hl.1 rfl (lv_room (Nat.le_of_ble_eq_true rfl)) dX12_unit_284 ⟨Nat.le_of_ble_eq_true rfl, Nat.le_of_ble_eq_true rfl⟩) hS (fun q _ h => hFc q h) hFc (fun u_36 t9 H locs ht9 hvm hw hB hz1 hk1 hS => ?_)
                    obtain ⟨hP1, hD1⟩ := hB
                    rw [ht9] at hP1
                    have wu_36 := hw
                    have q_38 : ((v 31) + 1).toInt = (v 31).toInt + 1 := ow_add rfl (by omega) (by omega)
                    replace hv := MIv.up 31 hv (show 0 ≤ ((v 31) + 1).toInt ∧ ((v 31) + 1).toInt ≤ 1200 from by omega)
                    replace hR : RI (va_up v33 31 ((v 31) + 1)) (va_up f 13 (upd (f 13) (Int32.toNatClampNeg (v 30)) v_15)) := RI.upv 31 hR (by decide)
                    replace hL : WL (va_up v33 31 ((v 31) + 1)) (va_up f 13 (upd (f 13) (Int32.toNatClampNeg (v 30)) v_15)) := WL.upv 31 hL (by decide)
                    replace hV_0 := FV.up hV_0 31 ((v 31) + 1) (by decide)
                    replace hf := MIf.up 24 (i := (Int32.toNatClampNeg (v 31))) hf (ow_any r_u_4)
                    replace hF_0 := FF.up hF_0 24 (upd ((va_up f 13 (upd (f 13) (Int32.toNatClampNeg (v 30)) v_15)) 24) (Int32.toNatClampNeg (v 31)) r_u_4) (by decide)
                    replace hR : RI (va_up v33 31 ((v 31) + 1)) (va_up (va_up f 13 (upd (f 13) (Int32.toNatClampNeg (v 30)) v_15)) 24 (upd ((va_up f 13 (upd (f 13) (Int32.toNatClampNeg (v 30)) v_15)) 24) (Int32.toNatClampNeg (v 31)) r_u_4)) := RIb.w24 hR (show ((Int32.toNatClampNeg (v 31) : Nat) : Int) < 600 * ((Int32.toNatClampNeg (v33 29) : Nat) : Int) ∨ 600 * ((Int32.toNatClampNeg (v33 29) : Nat) : Int) + 600 ≤ ((Int32.toNatClampNeg (v 31) : Nat) : Int) from by rw [show v33 29 = (v 29) from ((hV_33 29 (by decide)).trans ((xu_18V 29 (by decide)).trans (hV_5 29 (by decide))))]; rw [ow_tn, ow_tn]; omega)
                    replace hL : WL (va_up v33 31 ((v 31) + 1)) (va_up (va_up f 13 (upd (f 13) (Int32.toNatClampNeg (v 30)) v_15)) 24 (upd ((va_up f 13 (upd (f 13) (Int32.toNatClampNeg (v 30)) v_15)) 24) (Int32.toNatClampNeg (v 31)) r_u_4)) := WL.upf 24 hL (by decide)
                    replace hf := MIf.up 25 (i := (Int32.toNatClampNeg (v 31))) hf (ow_any x5_33)
                    replace hF_0 := FF.up hF_0 25 (upd ((va_up (va_up f 13 (upd (f 13) (Int32.toNatClampNeg (v 30)) v_15)) 24 (upd ((va_up f 13 (upd (f 13) (Int32.toNatClampNeg (v 30)) v_15)) 24) (Int32.toNatClampNeg (v 31)) r_u_4)) 25) (Int32.toNatClampNeg (v 31)) x5_33) (by decide)
                    replace hR : RI (va_up v33 31 ((v 31) + 1)) (va_up (va_up (va_up f 13 (upd (f 13) (Int32.toNatClampNeg (v 30)) v_15)) 24 (upd ((va_up f 13 (upd (f 13) (Int32.toNatClampNeg (v 30)) v_15)) 24) (Int32.toNatClampNeg (v 31)) r_u_4)) 25 (upd ((va_up (va_up f 13 (upd (f 13) (Int32.toNatClampNeg (v 30)) v_15)) 24 (upd ((va_up f 13 (upd (f 13) (Int32.toNatClampNeg (v 30)) v_15)) 24) (Int32.toNatClampNeg (v 31)) r_u_4)) 25) (Int32.toNatClampNeg (v 31)) x5_33)) := RIb.w25 hR (show ((Int32.toNatClampNeg (v 31) : Nat) : Int) < 600 * ((Int32.toNatClampNeg (v33 29) : Nat) : Int) ∨ 600 * ((Int32.toNatClampNeg (v33 29) : Nat) : Int) + 600 ≤ ((Int32.toNatClampNeg (v 31) : Nat) : Int) from by rw [show v33 29 = (v 29) from ((hV_33 29 (by decide)).trans ((xu_18V 29 (by decide)).trans (hV_5 29 (by decide))))]; rw [ow_tn, ow_tn]; omega)
                    replace hL : WL (va_up v33 31 ((v 31) + 1)) (va_up (va_up (va_up f 13 (upd (f 13) (Int32.toNatClampNeg (v 30)) v_15)) 24 (upd ((va_up f 13 (upd (f 13) (Int32.toNatClampNeg (v 30)) v_15)) 24) (Int32.toNatClampNeg (v 31)) r_u_4)) 25 (upd ((va_up (va_up f 13 (upd (f 13) (Int32.toNatClampNeg (v 30)) v_15)) 24 (upd ((va_up f 13 (upd (f 13) (Int32.toNatClampNeg (v 30)) v_15)) 24) (Int32.toNatClampNeg (v 31)) r_u_4)) 25) (Int32.toNatClampNeg (v 31)) x5_33)) := WL.upf 25 hL (by decide)
                    have hP : va_P G vwCl (WMs cy mo h (va_up v33 31 ((v 31) + 1)) nm33 (va_up (va_up (va_up f 13 (upd (f 13) (Int32.toNatClampNeg (v 30)) v_15)) 24 (upd ((va_up f 13 (upd (f 13) (Int32.toNatClampNeg (v 30)) v_15)) 24) (Int32.toNatClampNeg (v 31)) r_u_4)) 25 (upd ((va_up (va_up f 13 (upd (f 13) (Int32.toNatClampNeg (v 30)) v_15)) 24 (upd ((va_up f 13 (upd (f 13) (Int32.toNatClampNeg (v 30)) v_15)) 24) (Int32.toNatClampNeg (v 31)) r_u_4)) 25) (Int32.toNatClampNeg (v 31)) x5_33)) g) H := hP1
                    have hD : va_D A (WMs cy mo h (va_up v33 31 ((v 31) + 1)) nm33 (va_up (va_up (va_up f 13 (upd (f 13) (Int32.toNatClampNeg (v 30)) v_15)) 24 (upd ((va_up f 13 (upd (f 13) (Int32.toNatClampNeg (v 30)) v_15)) 24) (Int32.toNatClampNeg (v 31)) r_u_4)) 25 (upd ((va_up (va_up f 13 (upd (f 13) (Int32.toNatClampNeg (v 30)) v_15)) 24 (upd ((va_up f 13 (upd (f 13) (Int32.toNatClampNeg (v 30)) v_15)) 24) (Int32.toNatClampNeg (v 31)) r_u_4)) 25) (Int32.toNatClampNeg (v 31)) x5_33)) g) := hD1.weaken (fun _ _ _ h => hFc _ h)
                    clear hFc hk1 hz1 hP1 hD1 hw
                    refine lv_iconst (v := 0) hx hb dX12_unit_287 (by decide) ?_
                    refine W.widen (k := 0) (n := 0) (Nat.le_of_ble_eq_true rfl) (Nat.le_of_ble_eq_true rfl) ?_
                    exact W.zret (v := 0) hx hb hr rfl (fun t ht9 hW => ⟨⟨0, ((va_up v33 31 ((v 31) + 1)), nm33, (va_up (va_up (va_up f 13 (upd (f 13) (Int32.toNatClampNeg (v 30)) v_15)) 24 (upd ((va_up f 13 (upd (f 13) (Int32.toNatClampNeg (v 30)) v_15)) 24) (Int32.toNatClampNeg (v 31)) r_u_4)) 25 (upd ((va_up (va_up f 13 (upd (f 13) (Int32.toNatClampNeg (v 30)) v_15)) 24 (upd ((va_up f 13 (upd (f 13) (Int32.toNatClampNeg (v 30)) v_15)) 24) (Int32.toNatClampNeg (v 31)) r_u_4)) 25) (Int32.toNatClampNeg (v 31)) x5_33)), g), rfl, ⟨hv, hf, hR, hL, hV_0, hF_0, ⟨(by omega), (show (v33 7).toInt ≤ (v 3).toInt from by first | omega | (subst_vars; first | rfl | omega))⟩, (show 0 ≤ mz (v 3).toInt (v33 7).toInt (v33 8).toInt ∧ mz (v 3).toInt (v33 7).toInt (v33 8).toInt ≤ mz (v 3).toInt (v 7).toInt (v 8).toInt ∧ ((v33 4).toInt ≠ 0 ∨ mz (v 3).toInt (v33 7).toInt (v33 8).toInt < mz (v 3).toInt (v 7).toInt (v 8).toInt) from by omega), (show (v33 4).toInt = 0 → EI (0 : Int32).toInt (v 30).toInt Fz ((v 31) + 1).toInt (v33 33).toInt (v33 32).toInt ((upd (f 13) (Int32.toNatClampNeg (v 30)) v_15) (Int32.toNatClampNeg (v 30))).toInt (f 26) (f 27) (upd (f 24) (Int32.toNatClampNeg (v 31)) r_u_4) (upd (f 25) (Int32.toNatClampNeg (v 31)) x5_33) from by rw [(show v33 33 = (v 33) from ((hV_33 33 (by decide)).trans ((xu_18V 33 (by decide)).trans (hV_5 33 (by decide))))), (show v33 32 = (v 32) from ((hV_33 32 (by decide)).trans ((xu_18V 32 (by decide)).trans (hV_5 32 (by decide)))))]; intro h9; have okL1 : 97 ≤ r_u_4.toInt ∧ r_u_4.toInt ≤ 122 := (by have := xu_4_O.rg; omega); have okL2 : okc r_u_4.toInt x5_33.toInt := xu_4_O.ok (by omega) (by omega); revert h9; exact fun h9 => EI.cast (EI.leaf hE (by omega) (by omega) (okL1) (okL2)) (by omega) (by omega) (by omega) (by omega) (by omega)), (show OUT Fz (600 * (v 30).toInt + 600) (f 24) (f 25) (upd (f 24) (Int32.toNatClampNeg (v 31)) r_u_4) (upd (f 25) (Int32.toNatClampNeg (v 31)) x5_33) from by exact OUT.w OUT.rf _ _ ⟨by rw [ow_tn]; omega, by rw [ow_tn]; omega⟩)⟩, ⟨by rw [ht9]; exact hP, hD⟩⟩, hS.F ht9⟩) hS.2.2 dX12_unit_288
                  · have q_39 : r_u_4.toInt = (0 : Int32).toInt := (ow_eq _ _).mp c_34
                    refine lv_bipush (v := 107) hx hb dX12_unit_275 (by decide) ?_
                    refine lv_goto (tgt := 282) hx hb dX12_unit_277 (by decide) ?_
                    refine lv_iload hx hb dX12_unit_282 (lv_at hl 0 rfl) ?_
                    have hFc := fr_free hD hS hA
                    refine va_callv (va_runV (As := [.int 107, .int x5_33]) (rest := []) ⟨hx, hb, hml, hown, ht⟩ (m_emit l G cy _ mo h T v33 nm33 (va_up f 13 (upd (f 13) (Int32.toNatClampNeg (v 30)) v_15)) g (107) x5_33 ((v 31)) hv hf hR hL ((hV_33 31 (by decide)).trans ((xu_18V 31 (by decide)).trans (hV_5 31 (by decide)))) (show 0 ≤ ((v 31)).toInt ∧ ((v 31)).toInt ≤ 1199 from by omega)) (cwV 2 ht (gv k_256 k_257 k_258 k_61 k_255) rfl rfl rfl (by decide +kernel) ⟨Nat.le_of_ble_eq_true rfl, Nat.le_of_ble_eq_true rfl⟩) ⟨En.blind, va_recv hK hP (ci := 12) (q0 := 0) rfl rfl, fun U hU hW => ⟨rfl, En.of hU hW hP hK hD hN⟩⟩ rfl rfl hl.1 rfl (lv_room (Nat.le_of_ble_eq_true rfl)) dX12_unit_284 ⟨Nat.le_of_ble_eq_true rfl, Nat.le_of_ble_eq_true rfl⟩) hS (fun q _ h => hFc q h) hFc (fun u_40 t9 H locs ht9 hvm hw hB hz1 hk1 hS => ?_)
                    obtain ⟨hP1, hD1⟩ := hB
                    rw [ht9] at hP1
                    have wu_40 := hw
                    have q_42 : ((v 31) + 1).toInt = (v 31).toInt + 1 := ow_add rfl (by omega) (by omega)
                    replace hv := MIv.up 31 hv (show 0 ≤ ((v 31) + 1).toInt ∧ ((v 31) + 1).toInt ≤ 1200 from by omega)
                    replace hR : RI (va_up v33 31 ((v 31) + 1)) (va_up f 13 (upd (f 13) (Int32.toNatClampNeg (v 30)) v_15)) := RI.upv 31 hR (by decide)
                    replace hL : WL (va_up v33 31 ((v 31) + 1)) (va_up f 13 (upd (f 13) (Int32.toNatClampNeg (v 30)) v_15)) := WL.upv 31 hL (by decide)
                    replace hV_0 := FV.up hV_0 31 ((v 31) + 1) (by decide)
                    replace hf := MIf.up 24 (i := (Int32.toNatClampNeg (v 31))) hf (ow_any (107 : Int32))
                    replace hF_0 := FF.up hF_0 24 (upd ((va_up f 13 (upd (f 13) (Int32.toNatClampNeg (v 30)) v_15)) 24) (Int32.toNatClampNeg (v 31)) (107 : Int32)) (by decide)
                    replace hR : RI (va_up v33 31 ((v 31) + 1)) (va_up (va_up f 13 (upd (f 13) (Int32.toNatClampNeg (v 30)) v_15)) 24 (upd ((va_up f 13 (upd (f 13) (Int32.toNatClampNeg (v 30)) v_15)) 24) (Int32.toNatClampNeg (v 31)) (107 : Int32))) := RIb.w24 hR (show ((Int32.toNatClampNeg (v 31) : Nat) : Int) < 600 * ((Int32.toNatClampNeg (v33 29) : Nat) : Int) ∨ 600 * ((Int32.toNatClampNeg (v33 29) : Nat) : Int) + 600 ≤ ((Int32.toNatClampNeg (v 31) : Nat) : Int) from by rw [show v33 29 = (v 29) from ((hV_33 29 (by decide)).trans ((xu_18V 29 (by decide)).trans (hV_5 29 (by decide))))]; rw [ow_tn, ow_tn]; omega)
                    replace hL : WL (va_up v33 31 ((v 31) + 1)) (va_up (va_up f 13 (upd (f 13) (Int32.toNatClampNeg (v 30)) v_15)) 24 (upd ((va_up f 13 (upd (f 13) (Int32.toNatClampNeg (v 30)) v_15)) 24) (Int32.toNatClampNeg (v 31)) (107 : Int32))) := WL.upf 24 hL (by decide)
                    replace hf := MIf.up 25 (i := (Int32.toNatClampNeg (v 31))) hf (ow_any x5_33)
                    replace hF_0 := FF.up hF_0 25 (upd ((va_up (va_up f 13 (upd (f 13) (Int32.toNatClampNeg (v 30)) v_15)) 24 (upd ((va_up f 13 (upd (f 13) (Int32.toNatClampNeg (v 30)) v_15)) 24) (Int32.toNatClampNeg (v 31)) (107 : Int32))) 25) (Int32.toNatClampNeg (v 31)) x5_33) (by decide)
                    replace hR : RI (va_up v33 31 ((v 31) + 1)) (va_up (va_up (va_up f 13 (upd (f 13) (Int32.toNatClampNeg (v 30)) v_15)) 24 (upd ((va_up f 13 (upd (f 13) (Int32.toNatClampNeg (v 30)) v_15)) 24) (Int32.toNatClampNeg (v 31)) (107 : Int32))) 25 (upd ((va_up (va_up f 13 (upd (f 13) (Int32.toNatClampNeg (v 30)) v_15)) 24 (upd ((va_up f 13 (upd (f 13) (Int32.toNatClampNeg (v 30)) v_15)) 24) (Int32.toNatClampNeg (v 31)) (107 : Int32))) 25) (Int32.toNatClampNeg (v 31)) x5_33)) := RIb.w25 hR (show ((Int32.toNatClampNeg (v 31) : Nat) : Int) < 600 * ((Int32.toNatClampNeg (v33 29) : Nat) : Int) ∨ 600 * ((Int32.toNatClampNeg (v33 29) : Nat) : Int) + 600 ≤ ((Int32.toNatClampNeg (v 31) : Nat) : Int) from by rw [show v33 29 = (v 29) from ((hV_33 29 (by decide)).trans ((xu_18V 29 (by decide)).trans (hV_5 29 (by decide))))]; rw [ow_tn, ow_tn]; omega)
                    replace hL : WL (va_up v33 31 ((v 31) + 1)) (va_up (va_up (va_up f 13 (upd (f 13) (Int32.toNatClampNeg (v 30)) v_15)) 24 (upd ((va_up f 13 (upd (f 13) (Int32.toNatClampNeg (v 30)) v_15)) 24) (Int32.toNatClampNeg (v 31)) (107 : Int32))) 25 (upd ((va_up (va_up f 13 (upd (f 13) (Int32.toNatClampNeg (v 30)) v_15)) 24 (upd ((va_up f 13 (upd (f 13) (Int32.toNatClampNeg (v 30)) v_15)) 24) (Int32.toNatClampNeg (v 31)) (107 : Int32))) 25) (Int32.toNatClampNeg (v 31)) x5_33)) := WL.upf 25 hL (by decide)
                    have hP : va_P G vwCl (WMs cy mo h (va_up v33 31 ((v 31) + 1)) nm33 (va_up (va_up (va_up f 13 (upd (f 13) (Int32.toNatClampNeg (v 30)) v_15)) 24 (upd ((va_up f 13 (upd (f 13) (Int32.toNatClampNeg (v 30)) v_15)) 24) (Int32.toNatClampNeg (v 31)) (107 : Int32))) 25 (upd ((va_up (va_up f 13 (upd (f 13) (Int32.toNatClampNeg (v 30)) v_15)) 24 (upd ((va_up f 13 (upd (f 13) (Int32.toNatClampNeg (v 30)) v_15)) 24) (Int32.toNatClampNeg (v 31)) (107 : Int32))) 25) (Int32.toNatClampNeg (v 31)) x5_33)) g) H := hP1
                    have hD : va_D A (WMs cy mo h (va_up v33 31 ((v 31) + 1)) nm33 (va_up (va_up (va_up f 13 (upd (f 13) (Int32.toNatClampNeg (v 30)) v_15)) 24 (upd ((va_up f 13 (upd (f 13) (Int32.toNatClampNeg (v 30)) v_15)) 24) (Int32.toNatClampNeg (v 31)) (107 : Int32))) 25 (upd ((va_up (va_up f 13 (upd (f 13) (Int32.toNatClampNeg (v 30)) v_15)) 24 (upd ((va_up f 13 (upd (f 13) (Int32.toNatClampNeg (v 30)) v_15)) 24) (Int32.toNatClampNeg (v 31)) (107 : Int32))) 25) (Int32.toNatClampNeg (v 31)) x5_33)) g) := hD1.weaken (fun _ _ _ h => hFc _ h)
                    clear hFc hk1 hz1 hP1 hD1 hw
                    refine lv_iconst (v := 0) hx hb dX12_unit_287 (by decide) ?_
                    refine W.widen (k := 0) (n := 0) (Nat.le_of_ble_eq_true rfl) (Nat.le_of_ble_eq_true rfl) ?_
                    exact W.zret (v := 0) hx hb hr rfl (fun t ht9 hW => ⟨⟨0, ((va_up v33 31 ((v 31) + 1)), nm33, (va_up (va_up (va_up f 13 (upd (f 13) (Int32.toNatClampNeg (v 30)) v_15)) 24 (upd ((va_up f 13 (upd (f 13) (Int32.toNatClampNeg (v 30)) v_15)) 24) (Int32.toNatClampNeg (v 31)) (107 : Int32))) 25 (upd ((va_up (va_up f 13 (upd (f 13) (Int32.toNatClampNeg (v 30)) v_15)) 24 (upd ((va_up f 13 (upd (f 13) (Int32.toNatClampNeg (v 30)) v_15)) 24) (Int32.toNatClampNeg (v 31)) (107 : Int32))) 25) (Int32.toNatClampNeg (v 31)) x5_33)), g), rfl, ⟨hv, hf, hR, hL, hV_0, hF_0, ⟨(by omega), (show (v33 7).toInt ≤ (v 3).toInt from by first | omega | (subst_vars; first | rfl | omega))⟩, (show 0 ≤ mz (v 3).toInt (v33 7).toInt (v33 8).toInt ∧ mz (v 3).toInt (v33 7).toInt (v33 8).toInt ≤ mz (v 3).toInt (v 7).toInt (v 8).toInt ∧ ((v33 4).toInt ≠ 0 ∨ mz (v 3).toInt (v33 7).toInt (v33 8).toInt < mz (v 3).toInt (v 7).toInt (v 8).toInt) from by omega), (show (v33 4).toInt = 0 → EI (0 : Int32).toInt (v 30).toInt Fz ((v 31) + 1).toInt (v33 33).toInt (v33 32).toInt ((upd (f 13) (Int32.toNatClampNeg (v 30)) v_15) (Int32.toNatClampNeg (v 30))).toInt (f 26) (f 27) (upd (f 24) (Int32.toNatClampNeg (v 31)) (107 : Int32)) (upd (f 25) (Int32.toNatClampNeg (v 31)) x5_33) from by rw [(show v33 33 = (v 33) from ((hV_33 33 (by decide)).trans ((xu_18V 33 (by decide)).trans (hV_5 33 (by decide))))), (show v33 32 = (v 32) from ((hV_33 32 (by decide)).trans ((xu_18V 32 (by decide)).trans (hV_5 32 (by decide)))))]; have okL1 : 97 ≤ (107 : Int32).toInt ∧ (107 : Int32).toInt ≤ 122 := (by omega); have okL2 : okc (107 : Int32).toInt x5_33.toInt := Or.inl (by omega); exact fun h9 => EI.cast (EI.leaf hE (by omega) (by omega) (okL1) (okL2)) (by omega) (by omega) (by omega) (by omega) (by omega)), (show OUT Fz (600 * (v 30).toInt + 600) (f 24) (f 25) (upd (f 24) (Int32.toNatClampNeg (v 31)) (107 : Int32)) (upd (f 25) (Int32.toNatClampNeg (v 31)) x5_33) from by exact OUT.w OUT.rf _ _ ⟨by rw [ow_tn]; omega, by rw [ow_tn]; omega⟩)⟩, ⟨by rw [ht9]; exact hP, hD⟩⟩, hS.F ht9⟩) hS.2.2 dX12_unit_288
                replace hW_33 : FV [4, 5, 6, 7, 8, 9] v18 v18 := FV.rf
                refine W.widen (k := 0) (n := 0) (Nat.le_of_ble_eq_true rfl) (Nat.le_of_ble_eq_true rfl) ?_
                have jn_43 : ∀  (H : Heap) (locs : List Loc) (ls : Array Slot), (r_u_4.toInt = 105 ∨ r_u_4.toInt = 98 ∨ r_u_4.toInt = 101) → va_P G vwCl (WMs cy mo h v18 nm18 (va_up f 13 (upd (f 13) (Int32.toNatClampNeg (v 30)) v_15)) g) H → va_D A (WMs cy mo h v18 nm18 (va_up f 13 (upd (f 13) (Int32.toNatClampNeg (v 30)) v_15)) g) → va_S A s.heap H locs → lv_has ls 6 [(5, .int (v 9)), (4, .int r_u_4), (3, .int r_u_3), (2, .int y0_2), (1, .int y0_1), (0, .ref mo)] → W p l e (headSpec (.code yX12_unit cX12_unit 6 (some .boolean) :: TBg) ({ frames := 3, cells := 0, slots := 0, locals := 192 })).room s m ([.ref mo] : List Value).toArray below meth c H locs 0 0 (MQ below (va_Qi (fun (r : Int32) (u : (Nat → Int32) × Int64 × (Nat → Nat → Int32) × (Nat → Nat → Int64)) => MIv T u.1 ∧ MIf u.2.2.1 ∧ RI u.1 u.2.2.1 ∧ WL u.1 u.2.2.1 ∧ FV [4, 5, 6, 7, 8, 9, 31, 32, 33] v u.1 ∧ FF [13, 24, 25, 26, 27] f u.2.2.1 ∧ ((r.toInt = 0 ∨ r.toInt = 1) ∧ ((u.1 7).toInt ≤ (v 3).toInt)) ∧ (0 ≤ mz (v 3).toInt (u.1 7).toInt (u.1 8).toInt ∧ mz (v 3).toInt (u.1 7).toInt (u.1 8).toInt ≤ mz (v 3).toInt (v 7).toInt (v 8).toInt ∧ ((u.1 4).toInt ≠ 0 ∨ mz (v 3).toInt (u.1 7).toInt (u.1 8).toInt < mz (v 3).toInt (v 7).toInt (v 8).toInt)) ∧ ((u.1 4).toInt = 0 → EI r.toInt (v 30).toInt Fz (u.1 31).toInt (u.1 33).toInt (u.1 32).toInt (u.2.2.1 13 (Int32.toNatClampNeg (v 30))).toInt (u.2.2.1 26) (u.2.2.1 27) (u.2.2.1 24) (u.2.2.1 25)) ∧ (OUT Fz (600 * (v 30).toInt + 600) (f 24) (f 25) (u.2.2.1 24) (u.2.2.1 25))) (fun u t => Ex G A (WMs cy mo h u.1 u.2.1 u.2.2.1 u.2.2.2) t) A) ([.ref mo] : List Value).toArray s 0 0 A) (F0 m 223 ls []) := by
                  intro H locs ls qf43_0 hP hD hS hl
                  refine lv_aload_n hx hb dX12_unit_223 rfl (lv_at hl 5 rfl) ?_
                  have hFc := fr_new hS hA
                  refine va_calli (va_runV (As := []) (rest := []) ⟨hx, hb, hml, hown, ht⟩ (m_tuneHere l G cy _ mo h T v18 nm18 (va_up f 13 (upd (f 13) (Int32.toNatClampNeg (v 30)) v_15)) g   hv hf hR hL) (cwV 0 ht (gv k_260 k_261 k_262 k_61 k_259) rfl rfl rfl (by decide +kernel) ⟨Nat.le_of_ble_eq_true rfl, Nat.le_of_ble_eq_true rfl⟩) ⟨En.blind, va_recv hK hP (ci := 12) (q0 := 0) rfl rfl, fun U hU hW => ⟨rfl, En.of hU hW hP hK hD hN⟩⟩ rfl rfl hl.1 rfl (lv_room (Nat.le_of_ble_eq_true rfl)) dX12_unit_224 ⟨Nat.le_of_ble_eq_true rfl, Nat.le_of_ble_eq_true rfl⟩) hS (fun q _ h => hFc q h) hFc (fun r_u_44 u_44 t9 H locs ht9 hvm hw hB hz1 hk1 hS => ?_)
                  have hP := fr_keep hP hk1
                  have wu_44 := hw
                  clear hFc hk1 hz1 hB hw
                  replace wu_44 : (-1 ≤ r_u_44.toInt ∧ r_u_44.toInt ≤ 13) ∧ (r_u_44.toInt < 0 ∨ (v18 8).toInt = 2) := wu_44
                  refine lv_istore (lv' := [(5, .int r_u_44), (4, .int r_u_4), (3, .int r_u_3), (2, .int y0_2), (1, .int y0_1), (0, .ref mo)]) hx hb dX12_unit_227 hl (by decide) rfl (fun ls hl => ?_)
                  refine lv_aload_n hx hb dX12_unit_229 rfl (lv_at hl 5 rfl) ?_
                  refine mg_8 hx hb ht hown hK hP dX12_unit_230 ?_
                  refine lv_iconst (v := 2) hx hb dX12_unit_233 (by decide) ?_
                  refine lv_icmp_eq (tgt := 244) hx hb dX12_unit_234 (by decide) (fun c_45 => ?_) (fun c_45 => ?_)
                  · have q_46 : (v18 8).toInt = (2 : Int32).toInt := (ow_eq _ _).mp c_45
                    refine lv_iload hx hb dX12_unit_244 (lv_at hl 0 rfl) ?_
                    refine lv_if_ge (tgt := 258) hx hb dX12_unit_246 (by decide) (fun c_47 => ?_) (fun c_47 => ?_)
                    · have q_48 : (0 : Int32).toInt ≤ r_u_44.toInt := (ow_le _ _).mp c_47
                      refine lv_aload_n hx hb dX12_unit_258 rfl (lv_at hl 5 rfl) ?_
                      have hFc := fr_new hS hA
                      refine va_calli (va_runV (As := []) (rest := []) ⟨hx, hb, hml, hown, ht⟩ (m_isGood l G cy _ mo h T v18 nm18 (va_up f 13 (upd (f 13) (Int32.toNatClampNeg (v 30)) v_15)) g   hv hf hR hL) (cwV 0 ht (gv k_224 k_225 k_226 k_61 k_223) rfl rfl rfl (by decide +kernel) ⟨Nat.le_of_ble_eq_true rfl, Nat.le_of_ble_eq_true rfl⟩) ⟨En.blind, va_recv hK hP (ci := 12) (q0 := 0) rfl rfl, fun U hU hW => ⟨rfl, En.of hU hW hP hK hD hN⟩⟩ rfl rfl hl.1 rfl (lv_room (Nat.le_of_ble_eq_true rfl)) dX12_unit_259 ⟨Nat.le_of_ble_eq_true rfl, Nat.le_of_ble_eq_true rfl⟩) hS (fun q _ h => hFc q h) hFc (fun r_u_49 u_49 t9 H locs ht9 hvm hw hB hz1 hk1 hS => ?_)
                      have hP := fr_keep hP hk1
                      have wu_49 := hw
                      clear hFc hk1 hz1 hB hw
                      replace wu_49 : (r_u_49.toInt = 0 ∨ r_u_49.toInt = 1) ∧ ((r_u_49.toInt = 1 ∧ (v5 4).toInt = 0) ∨ (r_u_49.toInt = 0 ∧ (v5 4).toInt ≠ 0)) := by
                        have h9 : (r_u_49.toInt = 0 ∨ r_u_49.toInt = 1) ∧ ((r_u_49.toInt = 1 ∧ (v18 4).toInt = 0) ∨ (r_u_49.toInt = 0 ∧ (v18 4).toInt ≠ 0)) := wu_49
                        rw [(show v18 4 = (v5 4) from (xu_18V 4 (by decide)))] at h9
                        exact h9
                      refine lv_if_eq (tgt := 269) hx hb dX12_unit_262 (by decide) (fun c_50 => ?_) (fun c_50 => ?_)
                      · have q_51 : r_u_49.toInt = (0 : Int32).toInt := (ow_eq _ _).mp c_50
                        refine W.widen (k := 0) (n := 0) (Nat.le_of_ble_eq_true rfl) (Nat.le_of_ble_eq_true rfl) ?_
                        exact jn_33 r_u_44 v18 nm18 _ _ _ hv hW_33 (show (v18 7).toInt ≤ (v 3).toInt ∧ 0 ≤ mz (v 3).toInt (v18 7).toInt (v18 8).toInt ∧ mz (v 3).toInt (v18 7).toInt (v18 8).toInt < mz (v 3).toInt (v 7).toInt (v 8).toInt from by omega) (show (v18 4).toInt ≠ 0 ∨ (¬ r_u_4.toInt = 105 ∧ ¬ r_u_4.toInt = 98 ∧ ¬ r_u_4.toInt = 101) ∨ (0 ≤ r_u_44.toInt ∧ r_u_44.toInt ≤ 13) from by rw [(show v18 4 = (v5 4) from (xu_18V 4 (by decide)))]; omega) hP hD hS (lv_sub hl [0, 1, 2, 3, 4, 5] rfl)
                      · have q_52 : ¬ r_u_49.toInt = (0 : Int32).toInt := by have := (not_congr (ow_eq _ _)).mp c_50; omega
                        refine lv_aload_n hx hb dX12_unit_265 rfl (lv_at hl 5 rfl) ?_
                        have hFc := fr_free hD hS hA
                        refine va_callv (va_runV (As := []) (rest := []) ⟨hx, hb, hml, hown, ht⟩ (m_goOn l G cy _ mo h T v18 nm18 (va_up f 13 (upd (f 13) (Int32.toNatClampNeg (v 30)) v_15)) g   hv hf hR hL (show (v18 7).toInt ≤ (v18 3).toInt from by rw [(show v18 3 = (v 3) from ((xu_18V 3 (by decide)).trans (hV_5 3 (by decide))))]; omega)) (cwV 0 ht (gv k_232 k_233 k_234 k_61 k_231) rfl rfl rfl (by decide +kernel) ⟨Nat.le_of_ble_eq_true rfl, Nat.le_of_ble_eq_true rfl⟩) ⟨En.blind, va_recv hK hP (ci := 12) (q0 := 0) rfl rfl, fun U hU hW => ⟨rfl, En.of hU hW hP hK hD hN⟩⟩ rfl rfl hl.1 rfl (lv_room (Nat.le_of_ble_eq_true rfl)) dX12_unit_266 ⟨Nat.le_of_ble_eq_true rfl, Nat.le_of_ble_eq_true rfl⟩) hS (fun q _ h => hFc q h) hFc (fun u_53 t9 H locs ht9 hvm hw hB hz1 hk1 hS => ?_)
                        obtain ⟨v53, nm53⟩ := u_53
                        obtain ⟨hP1, hD1⟩ := hB
                        rw [ht9] at hP1
                        obtain ⟨hv, xu_53V, wu_53, xu_53_M⟩ := hw
                        dsimp only at hv xu_53V wu_53 xu_53_M
                        have hP : va_P G vwCl (WMs cy mo h v53 nm53 (va_up f 13 (upd (f 13) (Int32.toNatClampNeg (v 30)) v_15)) g) H := hP1
                        have hD : va_D A (WMs cy mo h v53 nm53 (va_up f 13 (upd (f 13) (Int32.toNatClampNeg (v 30)) v_15)) g) := hD1.weaken (fun _ _ _ h => hFc _ h)
                        replace hR : RI v53 (va_up f 13 (upd (f 13) (Int32.toNatClampNeg (v 30)) v_15)) := RI.fv hR xu_53V (by decide)
                        replace hL : WL v53 (va_up f 13 (upd (f 13) (Int32.toNatClampNeg (v 30)) v_15)) := WL.fv hL xu_53V (by decide) (by decide)
                        replace hV_0 := FV.tr hV_0 xu_53V (by decide)
                        replace hW_33 := FV.tr hW_33 xu_53V (by decide)
                        clear hFc hk1 hz1 hP1 hD1
                        replace wu_53 : ((v53 7).toInt ≤ (v 3).toInt ∧ (((v53 8).toInt = 0 ∧ (v53 7).toInt = (v 3).toInt) ∨ ((v53 8).toInt ≠ 0 ∧ (v18 7).toInt < (v53 7).toInt))) := by
                          have h9 : ((v53 7).toInt ≤ (v18 3).toInt ∧ (((v53 8).toInt = 0 ∧ (v53 7).toInt = (v18 3).toInt) ∨ ((v53 8).toInt ≠ 0 ∧ (v18 7).toInt < (v53 7).toInt))) := wu_53
                          rw [(show v18 3 = (v 3) from ((xu_18V 3 (by decide)).trans (hV_5 3 (by decide))))] at h9
                          exact h9
                        replace xu_53_M : 0 ≤ mz (v 3).toInt (v53 7).toInt (v53 8).toInt ∧ mz (v 3).toInt (v53 7).toInt (v53 8).toInt ≤ mz (v 3).toInt (v18 7).toInt (v18 8).toInt ∧ ((v18 8).toInt = 0 ∨ mz (v 3).toInt (v53 7).toInt (v53 8).toInt < mz (v 3).toInt (v18 7).toInt (v18 8).toInt) := by
                          have h9 : 0 ≤ mz (v18 3).toInt (v53 7).toInt (v53 8).toInt ∧ mz (v18 3).toInt (v53 7).toInt (v53 8).toInt ≤ mz (v18 3).toInt (v18 7).toInt (v18 8).toInt ∧ ((v18 8).toInt = 0 ∨ mz (v18 3).toInt (v53 7).toInt (v53 8).toInt < mz (v18 3).toInt (v18 7).toInt (v18 8).toInt) := xu_53_M
                          rw [(show v18 3 = (v 3) from ((xu_18V 3 (by decide)).trans (hV_5 3 (by decide))))] at h9
                          exact h9
                        refine W.widen (k := 0) (n := 0) (Nat.le_of_ble_eq_true rfl) (Nat.le_of_ble_eq_true rfl) ?_
                        exact jn_33 r_u_44 v53 nm53 _ _ _ hv hW_33 (show (v53 7).toInt ≤ (v 3).toInt ∧ 0 ≤ mz (v 3).toInt (v53 7).toInt (v53 8).toInt ∧ mz (v 3).toInt (v53 7).toInt (v53 8).toInt < mz (v 3).toInt (v 7).toInt (v 8).toInt from by omega) (show (v53 4).toInt ≠ 0 ∨ (¬ r_u_4.toInt = 105 ∧ ¬ r_u_4.toInt = 98 ∧ ¬ r_u_4.toInt = 101) ∨ (0 ≤ r_u_44.toInt ∧ r_u_44.toInt ≤ 13) from by rw [(show v53 4 = (v5 4) from ((xu_53V 4 (by decide)).trans (xu_18V 4 (by decide))))]; omega) hP hD hS (lv_sub hl [0, 1, 2, 3, 4, 5] rfl)
                    · have q_54 : r_u_44.toInt < (0 : Int32).toInt := by have := (not_congr (ow_le _ _)).mp c_47; omega
                      refine lv_aload_n hx hb dX12_unit_249 rfl (lv_at hl 5 rfl) ?_
                      refine lv_iconst (v := 5) hx hb dX12_unit_250 (by decide) ?_
                      refine lv_aload_n hx hb dX12_unit_251 rfl (lv_at hl 5 rfl) ?_
                      refine mg_6 hx hb ht hown hK hP dX12_unit_252 ?_
                      have q_55 : 0 ≤ (v18 6).toInt ∧ (v18 6).toInt ≤ 1700 := hv 6
                      have hFc := fr_free hD hS hA
                      refine va_callv (va_runV (As := [.int 5, .int (v18 6)]) (rest := []) ⟨hx, hb, hml, hown, ht⟩ (m_fails l G cy _ mo h T v18 nm18 (va_up f 13 (upd (f 13) (Int32.toNatClampNeg (v 30)) v_15)) g (5) (v18 6)  hv hf hR hL (by omega)) (cwV 2 ht (gv k_211 k_212 k_213 k_61 k_210) rfl rfl rfl (by decide +kernel) ⟨Nat.le_of_ble_eq_true rfl, Nat.le_of_ble_eq_true rfl⟩) ⟨En.blind, va_recv hK hP (ci := 12) (q0 := 0) rfl rfl, fun U hU hW => ⟨rfl, En.of hU hW hP hK hD hN⟩⟩ rfl rfl hl.1 rfl (lv_room (Nat.le_of_ble_eq_true rfl)) dX12_unit_255 ⟨Nat.le_of_ble_eq_true rfl, Nat.le_of_ble_eq_true rfl⟩) hS (fun q _ h => hFc q h) hFc (fun u_56 t9 H locs ht9 hvm hw hB hz1 hk1 hS => ?_)
                      obtain ⟨v56, nm56⟩ := u_56
                      obtain ⟨hP1, hD1⟩ := hB
                      rw [ht9] at hP1
                      obtain ⟨hv, xu_56V, wu_56⟩ := hw
                      dsimp only at hv xu_56V wu_56
                      have hP : va_P G vwCl (WMs cy mo h v56 nm56 (va_up f 13 (upd (f 13) (Int32.toNatClampNeg (v 30)) v_15)) g) H := hP1
                      have hD : va_D A (WMs cy mo h v56 nm56 (va_up f 13 (upd (f 13) (Int32.toNatClampNeg (v 30)) v_15)) g) := hD1.weaken (fun _ _ _ h => hFc _ h)
                      replace hR : RI v56 (va_up f 13 (upd (f 13) (Int32.toNatClampNeg (v 30)) v_15)) := RI.fv hR xu_56V (by decide)
                      replace hL : WL v56 (va_up f 13 (upd (f 13) (Int32.toNatClampNeg (v 30)) v_15)) := WL.fv hL xu_56V (by decide) (by decide)
                      replace hV_0 := FV.tr hV_0 xu_56V (by decide)
                      replace hW_33 := FV.tr hW_33 xu_56V (by decide)
                      clear hFc hk1 hz1 hP1 hD1
                      replace wu_56 : (1 ≤ (v56 4).toInt) := wu_56
                      refine lv_aload_n hx hb dX12_unit_258 rfl (lv_at hl 5 rfl) ?_
                      have hFc := fr_new hS hA
                      refine va_calli (va_runV (As := []) (rest := []) ⟨hx, hb, hml, hown, ht⟩ (m_isGood l G cy _ mo h T v56 nm56 (va_up f 13 (upd (f 13) (Int32.toNatClampNeg (v 30)) v_15)) g   hv hf hR hL) (cwV 0 ht (gv k_224 k_225 k_226 k_61 k_223) rfl rfl rfl (by decide +kernel) ⟨Nat.le_of_ble_eq_true rfl, Nat.le_of_ble_eq_true rfl⟩) ⟨En.blind, va_recv hK hP (ci := 12) (q0 := 0) rfl rfl, fun U hU hW => ⟨rfl, En.of hU hW hP hK hD hN⟩⟩ rfl rfl hl.1 rfl (lv_room (Nat.le_of_ble_eq_true rfl)) dX12_unit_259 ⟨Nat.le_of_ble_eq_true rfl, Nat.le_of_ble_eq_true rfl⟩) hS (fun q _ h => hFc q h) hFc (fun r_u_57 u_57 t9 H locs ht9 hvm hw hB hz1 hk1 hS => ?_)
                      have hP := fr_keep hP hk1
                      have wu_57 := hw
                      clear hFc hk1 hz1 hB hw
                      replace wu_57 : (r_u_57.toInt = 0 ∨ r_u_57.toInt = 1) ∧ ((r_u_57.toInt = 1 ∧ (v56 4).toInt = 0) ∨ (r_u_57.toInt = 0 ∧ (v56 4).toInt ≠ 0)) := wu_57
                      refine lv_if_eq (tgt := 269) hx hb dX12_unit_262 (by decide) (fun c_58 => ?_) (fun c_58 => ?_)
                      · have q_59 : r_u_57.toInt = (0 : Int32).toInt := (ow_eq _ _).mp c_58
                        refine W.widen (k := 0) (n := 0) (Nat.le_of_ble_eq_true rfl) (Nat.le_of_ble_eq_true rfl) ?_
                        exact jn_33 r_u_44 v56 nm56 _ _ _ hv hW_33 (show (v56 7).toInt ≤ (v 3).toInt ∧ 0 ≤ mz (v 3).toInt (v56 7).toInt (v56 8).toInt ∧ mz (v 3).toInt (v56 7).toInt (v56 8).toInt < mz (v 3).toInt (v 7).toInt (v 8).toInt from by rw [(show v56 7 = (v18 7) from (xu_56V 7 (by decide))), (show v56 8 = (v18 8) from (xu_56V 8 (by decide)))]; omega) (show (v56 4).toInt ≠ 0 ∨ (¬ r_u_4.toInt = 105 ∧ ¬ r_u_4.toInt = 98 ∧ ¬ r_u_4.toInt = 101) ∨ (0 ≤ r_u_44.toInt ∧ r_u_44.toInt ≤ 13) from by omega) hP hD hS (lv_sub hl [0, 1, 2, 3, 4, 5] rfl)
                      · have q_60 : ¬ r_u_57.toInt = (0 : Int32).toInt := by have := (not_congr (ow_eq _ _)).mp c_58; omega
                        refine lv_aload_n hx hb dX12_unit_265 rfl (lv_at hl 5 rfl) ?_
                        have hFc := fr_free hD hS hA
                        refine va_callv (va_runV (As := []) (rest := []) ⟨hx, hb, hml, hown, ht⟩ (m_goOn l G cy _ mo h T v56 nm56 (va_up f 13 (upd (f 13) (Int32.toNatClampNeg (v 30)) v_15)) g   hv hf hR hL (show (v56 7).toInt ≤ (v56 3).toInt from by rw [(show v56 7 = (v18 7) from (xu_56V 7 (by decide))), (show v56 3 = (v 3) from ((xu_56V 3 (by decide)).trans ((xu_18V 3 (by decide)).trans (hV_5 3 (by decide)))))]; omega)) (cwV 0 ht (gv k_232 k_233 k_234 k_61 k_231) rfl rfl rfl (by decide +kernel) ⟨Nat.le_of_ble_eq_true rfl, Nat.le_of_ble_eq_true rfl⟩) ⟨En.blind, va_recv hK hP (ci := 12) (q0 := 0) rfl rfl, fun U hU hW => ⟨rfl, En.of hU hW hP hK hD hN⟩⟩ rfl rfl hl.1 rfl (lv_room (Nat.le_of_ble_eq_true rfl)) dX12_unit_266 ⟨Nat.le_of_ble_eq_true rfl, Nat.le_of_ble_eq_true rfl⟩) hS (fun q _ h => hFc q h) hFc (fun u_61 t9 H locs ht9 hvm hw hB hz1 hk1 hS => ?_)
                        obtain ⟨v61, nm61⟩ := u_61
                        obtain ⟨hP1, hD1⟩ := hB
                        rw [ht9] at hP1
                        obtain ⟨hv, xu_61V, wu_61, xu_61_M⟩ := hw
                        dsimp only at hv xu_61V wu_61 xu_61_M
                        have hP : va_P G vwCl (WMs cy mo h v61 nm61 (va_up f 13 (upd (f 13) (Int32.toNatClampNeg (v 30)) v_15)) g) H := hP1
                        have hD : va_D A (WMs cy mo h v61 nm61 (va_up f 13 (upd (f 13) (Int32.toNatClampNeg (v 30)) v_15)) g) := hD1.weaken (fun _ _ _ h => hFc _ h)
                        replace hR : RI v61 (va_up f 13 (upd (f 13) (Int32.toNatClampNeg (v 30)) v_15)) := RI.fv hR xu_61V (by decide)
                        replace hL : WL v61 (va_up f 13 (upd (f 13) (Int32.toNatClampNeg (v 30)) v_15)) := WL.fv hL xu_61V (by decide) (by decide)
                        replace hV_0 := FV.tr hV_0 xu_61V (by decide)
                        replace hW_33 := FV.tr hW_33 xu_61V (by decide)
                        clear hFc hk1 hz1 hP1 hD1
                        replace wu_61 : ((v61 7).toInt ≤ (v 3).toInt ∧ (((v61 8).toInt = 0 ∧ (v61 7).toInt = (v 3).toInt) ∨ ((v61 8).toInt ≠ 0 ∧ (v18 7).toInt < (v61 7).toInt))) := by
                          have h9 : ((v61 7).toInt ≤ (v56 3).toInt ∧ (((v61 8).toInt = 0 ∧ (v61 7).toInt = (v56 3).toInt) ∨ ((v61 8).toInt ≠ 0 ∧ (v56 7).toInt < (v61 7).toInt))) := wu_61
                          rw [(show v56 3 = (v 3) from ((xu_56V 3 (by decide)).trans ((xu_18V 3 (by decide)).trans (hV_5 3 (by decide))))), (show v56 7 = (v18 7) from (xu_56V 7 (by decide)))] at h9
                          exact h9
                        replace xu_61_M : 0 ≤ mz (v 3).toInt (v61 7).toInt (v61 8).toInt ∧ mz (v 3).toInt (v61 7).toInt (v61 8).toInt ≤ mz (v 3).toInt (v18 7).toInt (v18 8).toInt ∧ ((v18 8).toInt = 0 ∨ mz (v 3).toInt (v61 7).toInt (v61 8).toInt < mz (v 3).toInt (v18 7).toInt (v18 8).toInt) := by
                          have h9 : 0 ≤ mz (v56 3).toInt (v61 7).toInt (v61 8).toInt ∧ mz (v56 3).toInt (v61 7).toInt (v61 8).toInt ≤ mz (v56 3).toInt (v56 7).toInt (v56 8).toInt ∧ ((v56 8).toInt = 0 ∨ mz (v56 3).toInt (v61 7).toInt (v61 8).toInt < mz (v56 3).toInt (v56 7).toInt (v56 8).toInt) := xu_61_M
                          rw [(show v56 3 = (v 3) from ((xu_56V 3 (by decide)).trans ((xu_18V 3 (by decide)).trans (hV_5 3 (by decide))))), (show v56 7 = (v18 7) from (xu_56V 7 (by decide))), (show v56 8 = (v18 8) from (xu_56V 8 (by decide)))] at h9
                          exact h9
                        refine W.widen (k := 0) (n := 0) (Nat.le_of_ble_eq_true rfl) (Nat.le_of_ble_eq_true rfl) ?_
                        exact jn_33 r_u_44 v61 nm61 _ _ _ hv hW_33 (show (v61 7).toInt ≤ (v 3).toInt ∧ 0 ≤ mz (v 3).toInt (v61 7).toInt (v61 8).toInt ∧ mz (v 3).toInt (v61 7).toInt (v61 8).toInt < mz (v 3).toInt (v 7).toInt (v 8).toInt from by omega) (show (v61 4).toInt ≠ 0 ∨ (¬ r_u_4.toInt = 105 ∧ ¬ r_u_4.toInt = 98 ∧ ¬ r_u_4.toInt = 101) ∨ (0 ≤ r_u_44.toInt ∧ r_u_44.toInt ≤ 13) from by rw [(show v61 4 = (v56 4) from (xu_61V 4 (by decide)))]; omega) hP hD hS (lv_sub hl [0, 1, 2, 3, 4, 5] rfl)
                  · have q_62 : ¬ (v18 8).toInt = (2 : Int32).toInt := by have := (not_congr (ow_eq _ _)).mp c_45; omega
                    refine lv_aload_n hx hb dX12_unit_237 rfl (lv_at hl 5 rfl) ?_
                    have hFc := fr_free hD hS hA
                    refine va_callv (va_runV (As := []) (rest := []) ⟨hx, hb, hml, hown, ht⟩ (m_misplaced l G cy _ mo h T v18 nm18 (va_up f 13 (upd (f 13) (Int32.toNatClampNeg (v 30)) v_15)) g   hv hf hR hL) (cwV 0 ht (gv k_228 k_229 k_230 k_61 k_227) rfl rfl rfl (by decide +kernel) ⟨Nat.le_of_ble_eq_true rfl, Nat.le_of_ble_eq_true rfl⟩) ⟨En.blind, va_recv hK hP (ci := 12) (q0 := 0) rfl rfl, fun U hU hW => ⟨rfl, En.of hU hW hP hK hD hN⟩⟩ rfl rfl hl.1 rfl (lv_room (Nat.le_of_ble_eq_true rfl)) dX12_unit_238 ⟨Nat.le_of_ble_eq_true rfl, Nat.le_of_ble_eq_true rfl⟩) hS (fun q _ h => hFc q h) hFc (fun u_63 t9 H locs ht9 hvm hw hB hz1 hk1 hS => ?_)
                    obtain ⟨v63, nm63⟩ := u_63
                    obtain ⟨hP1, hD1⟩ := hB
                    rw [ht9] at hP1
                    obtain ⟨hv, xu_63V, wu_63⟩ := hw
                    dsimp only at hv xu_63V wu_63
                    have hP : va_P G vwCl (WMs cy mo h v63 nm63 (va_up f 13 (upd (f 13) (Int32.toNatClampNeg (v 30)) v_15)) g) H := hP1
                    have hD : va_D A (WMs cy mo h v63 nm63 (va_up f 13 (upd (f 13) (Int32.toNatClampNeg (v 30)) v_15)) g) := hD1.weaken (fun _ _ _ h => hFc _ h)
                    replace hR : RI v63 (va_up f 13 (upd (f 13) (Int32.toNatClampNeg (v 30)) v_15)) := RI.fv hR xu_63V (by decide)
                    replace hL : WL v63 (va_up f 13 (upd (f 13) (Int32.toNatClampNeg (v 30)) v_15)) := WL.fv hL xu_63V (by decide) (by decide)
                    replace hV_0 := FV.tr hV_0 xu_63V (by decide)
                    replace hW_33 := FV.tr hW_33 xu_63V (by decide)
                    clear hFc hk1 hz1 hP1 hD1
                    replace wu_63 : (1 ≤ (v63 4).toInt) := wu_63
                    refine lv_goto (tgt := 258) hx hb dX12_unit_241 (by decide) ?_
                    refine lv_aload_n hx hb dX12_unit_258 rfl (lv_at hl 5 rfl) ?_
                    have hFc := fr_new hS hA
                    refine va_calli (va_runV (As := []) (rest := []) ⟨hx, hb, hml, hown, ht⟩ (m_isGood l G cy _ mo h T v63 nm63 (va_up f 13 (upd (f 13) (Int32.toNatClampNeg (v 30)) v_15)) g   hv hf hR hL) (cwV 0 ht (gv k_224 k_225 k_226 k_61 k_223) rfl rfl rfl (by decide +kernel) ⟨Nat.le_of_ble_eq_true rfl, Nat.le_of_ble_eq_true rfl⟩) ⟨En.blind, va_recv hK hP (ci := 12) (q0 := 0) rfl rfl, fun U hU hW => ⟨rfl, En.of hU hW hP hK hD hN⟩⟩ rfl rfl hl.1 rfl (lv_room (Nat.le_of_ble_eq_true rfl)) dX12_unit_259 ⟨Nat.le_of_ble_eq_true rfl, Nat.le_of_ble_eq_true rfl⟩) hS (fun q _ h => hFc q h) hFc (fun r_u_64 u_64 t9 H locs ht9 hvm hw hB hz1 hk1 hS => ?_)
                    have hP := fr_keep hP hk1
                    have wu_64 := hw
                    clear hFc hk1 hz1 hB hw
                    replace wu_64 : (r_u_64.toInt = 0 ∨ r_u_64.toInt = 1) ∧ ((r_u_64.toInt = 1 ∧ (v63 4).toInt = 0) ∨ (r_u_64.toInt = 0 ∧ (v63 4).toInt ≠ 0)) := wu_64
                    refine lv_if_eq (tgt := 269) hx hb dX12_unit_262 (by decide) (fun c_65 => ?_) (fun c_65 => ?_)
                    · have q_66 : r_u_64.toInt = (0 : Int32).toInt := (ow_eq _ _).mp c_65
                      refine W.widen (k := 0) (n := 0) (Nat.le_of_ble_eq_true rfl) (Nat.le_of_ble_eq_true rfl) ?_
                      exact jn_33 r_u_44 v63 nm63 _ _ _ hv hW_33 (show (v63 7).toInt ≤ (v 3).toInt ∧ 0 ≤ mz (v 3).toInt (v63 7).toInt (v63 8).toInt ∧ mz (v 3).toInt (v63 7).toInt (v63 8).toInt < mz (v 3).toInt (v 7).toInt (v 8).toInt from by rw [(show v63 7 = (v18 7) from (xu_63V 7 (by decide))), (show v63 8 = (v18 8) from (xu_63V 8 (by decide)))]; omega) (show (v63 4).toInt ≠ 0 ∨ (¬ r_u_4.toInt = 105 ∧ ¬ r_u_4.toInt = 98 ∧ ¬ r_u_4.toInt = 101) ∨ (0 ≤ r_u_44.toInt ∧ r_u_44.toInt ≤ 13) from by omega) hP hD hS (lv_sub hl [0, 1, 2, 3, 4, 5] rfl)
                    · have q_67 : ¬ r_u_64.toInt = (0 : Int32).toInt := by have := (not_congr (ow_eq _ _)).mp c_65; omega
                      refine lv_aload_n hx hb dX12_unit_265 rfl (lv_at hl 5 rfl) ?_
                      have hFc := fr_free hD hS hA
                      refine va_callv (va_runV (As := []) (rest := []) ⟨hx, hb, hml, hown, ht⟩ (m_goOn l G cy _ mo h T v63 nm63 (va_up f 13 (upd (f 13) (Int32.toNatClampNeg (v 30)) v_15)) g   hv hf hR hL (show (v63 7).toInt ≤ (v63 3).toInt from by rw [(show v63 7 = (v18 7) from (xu_63V 7 (by decide))), (show v63 3 = (v 3) from ((xu_63V 3 (by decide)).trans ((xu_18V 3 (by decide)).trans (hV_5 3 (by decide)))))]; omega)) (cwV 0 ht (gv k_232 k_233 k_234 k_61 k_231) rfl rfl rfl (by decide +kernel) ⟨Nat.le_of_ble_eq_true rfl, Nat.le_of_ble_eq_true rfl⟩) ⟨En.blind, va_recv hK hP (ci := 12) (q0 := 0) rfl rfl, fun U hU hW => ⟨rfl, En.of hU hW hP hK hD hN⟩⟩ rfl rfl hl.1 rfl (lv_room (Nat.le_of_ble_eq_true rfl)) dX12_unit_266 ⟨Nat.le_of_ble_eq_true rfl, Nat.le_of_ble_eq_true rfl⟩) hS (fun q _ h => hFc q h) hFc (fun u_68 t9 H locs ht9 hvm hw hB hz1 hk1 hS => ?_)
                      obtain ⟨v68, nm68⟩ := u_68
                      obtain ⟨hP1, hD1⟩ := hB
                      rw [ht9] at hP1
                      obtain ⟨hv, xu_68V, wu_68, xu_68_M⟩ := hw
                      dsimp only at hv xu_68V wu_68 xu_68_M
                      have hP : va_P G vwCl (WMs cy mo h v68 nm68 (va_up f 13 (upd (f 13) (Int32.toNatClampNeg (v 30)) v_15)) g) H := hP1
                      have hD : va_D A (WMs cy mo h v68 nm68 (va_up f 13 (upd (f 13) (Int32.toNatClampNeg (v 30)) v_15)) g) := hD1.weaken (fun _ _ _ h => hFc _ h)
                      replace hR : RI v68 (va_up f 13 (upd (f 13) (Int32.toNatClampNeg (v 30)) v_15)) := RI.fv hR xu_68V (by decide)
                      replace hL : WL v68 (va_up f 13 (upd (f 13) (Int32.toNatClampNeg (v 30)) v_15)) := WL.fv hL xu_68V (by decide) (by decide)
                      replace hV_0 := FV.tr hV_0 xu_68V (by decide)
                      replace hW_33 := FV.tr hW_33 xu_68V (by decide)
                      clear hFc hk1 hz1 hP1 hD1
                      replace wu_68 : ((v68 7).toInt ≤ (v 3).toInt ∧ (((v68 8).toInt = 0 ∧ (v68 7).toInt = (v 3).toInt) ∨ ((v68 8).toInt ≠ 0 ∧ (v18 7).toInt < (v68 7).toInt))) := by
                        have h9 : ((v68 7).toInt ≤ (v63 3).toInt ∧ (((v68 8).toInt = 0 ∧ (v68 7).toInt = (v63 3).toInt) ∨ ((v68 8).toInt ≠ 0 ∧ (v63 7).toInt < (v68 7).toInt))) := wu_68
                        rw [(show v63 3 = (v 3) from ((xu_63V 3 (by decide)).trans ((xu_18V 3 (by decide)).trans (hV_5 3 (by decide))))), (show v63 7 = (v18 7) from (xu_63V 7 (by decide)))] at h9
                        exact h9
                      replace xu_68_M : 0 ≤ mz (v 3).toInt (v68 7).toInt (v68 8).toInt ∧ mz (v 3).toInt (v68 7).toInt (v68 8).toInt ≤ mz (v 3).toInt (v18 7).toInt (v18 8).toInt ∧ ((v18 8).toInt = 0 ∨ mz (v 3).toInt (v68 7).toInt (v68 8).toInt < mz (v 3).toInt (v18 7).toInt (v18 8).toInt) := by
                        have h9 : 0 ≤ mz (v63 3).toInt (v68 7).toInt (v68 8).toInt ∧ mz (v63 3).toInt (v68 7).toInt (v68 8).toInt ≤ mz (v63 3).toInt (v63 7).toInt (v63 8).toInt ∧ ((v63 8).toInt = 0 ∨ mz (v63 3).toInt (v68 7).toInt (v68 8).toInt < mz (v63 3).toInt (v63 7).toInt (v63 8).toInt) := xu_68_M
                        rw [(show v63 3 = (v 3) from ((xu_63V 3 (by decide)).trans ((xu_18V 3 (by decide)).trans (hV_5 3 (by decide))))), (show v63 7 = (v18 7) from (xu_63V 7 (by decide))), (show v63 8 = (v18 8) from (xu_63V 8 (by decide)))] at h9
                        exact h9
                      refine W.widen (k := 0) (n := 0) (Nat.le_of_ble_eq_true rfl) (Nat.le_of_ble_eq_true rfl) ?_
                      exact jn_33 r_u_44 v68 nm68 _ _ _ hv hW_33 (show (v68 7).toInt ≤ (v 3).toInt ∧ 0 ≤ mz (v 3).toInt (v68 7).toInt (v68 8).toInt ∧ mz (v 3).toInt (v68 7).toInt (v68 8).toInt < mz (v 3).toInt (v 7).toInt (v 8).toInt from by omega) (show (v68 4).toInt ≠ 0 ∨ (¬ r_u_4.toInt = 105 ∧ ¬ r_u_4.toInt = 98 ∧ ¬ r_u_4.toInt = 101) ∨ (0 ≤ r_u_44.toInt ∧ r_u_44.toInt ≤ 13) from by rw [(show v68 4 = (v63 4) from (xu_68V 4 (by decide)))]; omega) hP hD hS (lv_sub hl [0, 1, 2, 3, 4, 5] rfl)
                refine lv_iload hx hb dX12_unit_202 (lv_at hl 1 rfl) ?_
                refine lv_bipush (v := 105) hx hb dX12_unit_204 (by decide) ?_
                refine lv_icmp_eq (tgt := 223) hx hb dX12_unit_206 (by decide) (fun c_69 => ?_) (fun c_69 => ?_)
                · have q_70 : r_u_4.toInt = (105 : Int32).toInt := (ow_eq _ _).mp c_69
                  refine W.widen (k := 0) (n := 0) (Nat.le_of_ble_eq_true rfl) (Nat.le_of_ble_eq_true rfl) ?_
                  exact jn_43 _ _ _ (by omega) hP hD hS (lv_sub hl [0, 1, 2, 3, 4, 5] rfl)
                · have q_71 : ¬ r_u_4.toInt = (105 : Int32).toInt := by have := (not_congr (ow_eq _ _)).mp c_69; omega
                  refine lv_iload hx hb dX12_unit_209 (lv_at hl 1 rfl) ?_
                  refine lv_bipush (v := 98) hx hb dX12_unit_211 (by decide) ?_
                  refine lv_icmp_eq (tgt := 223) hx hb dX12_unit_213 (by decide) (fun c_72 => ?_) (fun c_72 => ?_)
                  · have q_73 : r_u_4.toInt = (98 : Int32).toInt := (ow_eq _ _).mp c_72
                    refine W.widen (k := 0) (n := 0) (Nat.le_of_ble_eq_true rfl) (Nat.le_of_ble_eq_true rfl) ?_
                    exact jn_43 _ _ _ (by omega) hP hD hS (lv_sub hl [0, 1, 2, 3, 4, 5] rfl)
                  · have q_74 : ¬ r_u_4.toInt = (98 : Int32).toInt := by have := (not_congr (ow_eq _ _)).mp c_72; omega
                    refine lv_iload hx hb dX12_unit_216 (lv_at hl 1 rfl) ?_
                    refine lv_bipush (v := 101) hx hb dX12_unit_218 (by decide) ?_
                    refine lv_icmp_ne (tgt := 269) hx hb dX12_unit_220 (by decide) (fun c_75 => ?_) (fun c_75 => ?_)
                    · have q_76 : ¬ r_u_4.toInt = (101 : Int32).toInt := by have := (not_congr (ow_eq _ _)).mp c_75; omega
                      refine W.widen (k := 0) (n := 0) (Nat.le_of_ble_eq_true rfl) (Nat.le_of_ble_eq_true rfl) ?_
                      exact jn_33 (v 9) v18 nm18 _ _ _ hv hW_33 (show (v18 7).toInt ≤ (v 3).toInt ∧ 0 ≤ mz (v 3).toInt (v18 7).toInt (v18 8).toInt ∧ mz (v 3).toInt (v18 7).toInt (v18 8).toInt < mz (v 3).toInt (v 7).toInt (v 8).toInt from by omega) (show (v18 4).toInt ≠ 0 ∨ (¬ r_u_4.toInt = 105 ∧ ¬ r_u_4.toInt = 98 ∧ ¬ r_u_4.toInt = 101) ∨ (0 ≤ (v 9).toInt ∧ (v 9).toInt ≤ 13) from by rw [(show v18 4 = (v5 4) from (xu_18V 4 (by decide)))]; omega) hP hD hS (lv_sub hl [0, 1, 2, 3, 4, 5] rfl)
                    · have q_77 : r_u_4.toInt = (101 : Int32).toInt := (ow_eq _ _).mp c_75
                      refine W.widen (k := 0) (n := 0) (Nat.le_of_ble_eq_true rfl) (Nat.le_of_ble_eq_true rfl) ?_
                      exact jn_43 _ _ _ (by omega) hP hD hS (lv_sub hl [0, 1, 2, 3, 4, 5] rfl)
              · have q_78 : ¬ r_u_3.toInt = (0 : Int32).toInt := by have := (not_congr (ow_eq _ _)).mp c_31; omega
                refine lv_aload_n hx hb dX12_unit_174 rfl (lv_at hl 5 rfl) ?_
                refine lv_iload_n hx hb dX12_unit_175 rfl (lv_at hl 3 rfl) ?_
                refine lv_if_eq (tgt := 183) hx hb dX12_unit_176 (by decide) (fun c_79 => ?_) (fun c_79 => ?_)
                · have q_80 : y0_2.toInt = (0 : Int32).toInt := (ow_eq _ _).mp c_79
                  refine lv_bipush (v := 6) hx hb dX12_unit_183 (by decide) ?_
                  refine lv_bipush (v := 126) hx hb dX12_unit_185 (by decide) ?_
                  have hFc := fr_free hD hS hA
                  refine va_callv (va_runV (As := [.int 6, .int 126]) (rest := []) ⟨hx, hb, hml, hown, ht⟩ (m_pushE l G cy _ mo h T v18 nm18 (va_up f 13 (upd (f 13) (Int32.toNatClampNeg (v 30)) v_15)) g (6) (126) ((v 33)) hv hf hR hL ((xu_18V 33 (by decide)).trans (hV_5 33 (by decide))) (show 0 ≤ ((v 33)).toInt ∧ ((v 33)).toInt ≤ 119 from by omega)) (cwV 2 ht (gv k_252 k_253 k_254 k_61 k_251) rfl rfl rfl (by decide +kernel) ⟨Nat.le_of_ble_eq_true rfl, Nat.le_of_ble_eq_true rfl⟩) ⟨En.blind, va_recv hK hP (ci := 12) (q0 := 0) rfl rfl, fun U hU hW => ⟨rfl, En.of hU hW hP hK hD hN⟩⟩ rfl rfl hl.1 rfl (lv_room (Nat.le_of_ble_eq_true rfl)) dX12_unit_187 ⟨Nat.le_of_ble_eq_true rfl, Nat.le_of_ble_eq_true rfl⟩) hS (fun q _ h => hFc q h) hFc (fun u_81 t9 H locs ht9 hvm hw hB hz1 hk1 hS => ?_)
                  obtain ⟨hP1, hD1⟩ := hB
                  rw [ht9] at hP1
                  have wu_81 := hw
                  have q_83 : ((v 33) + 1).toInt = (v 33).toInt + 1 := ow_add rfl (by omega) (by omega)
                  replace hv := MIv.up 33 hv (show 0 ≤ ((v 33) + 1).toInt ∧ ((v 33) + 1).toInt ≤ 120 from by omega)
                  replace hR : RI (va_up v18 33 ((v 33) + 1)) (va_up f 13 (upd (f 13) (Int32.toNatClampNeg (v 30)) v_15)) := RI.upv 33 hR (by decide)
                  replace hL : WL (va_up v18 33 ((v 33) + 1)) (va_up f 13 (upd (f 13) (Int32.toNatClampNeg (v 30)) v_15)) := WL.upv 33 hL (by decide)
                  replace hV_0 := FV.up hV_0 33 ((v 33) + 1) (by decide)
                  replace hf := MIf.up 26 (i := (Int32.toNatClampNeg (v 33))) hf (ow_any (6 : Int32))
                  replace hF_0 := FF.up hF_0 26 (upd ((va_up f 13 (upd (f 13) (Int32.toNatClampNeg (v 30)) v_15)) 26) (Int32.toNatClampNeg (v 33)) (6 : Int32)) (by decide)
                  replace hR : RI (va_up v18 33 ((v 33) + 1)) (va_up (va_up f 13 (upd (f 13) (Int32.toNatClampNeg (v 30)) v_15)) 26 (upd ((va_up f 13 (upd (f 13) (Int32.toNatClampNeg (v 30)) v_15)) 26) (Int32.toNatClampNeg (v 33)) (6 : Int32))) := RI.up 26 hR (by decide)
                  replace hL : WL (va_up v18 33 ((v 33) + 1)) (va_up (va_up f 13 (upd (f 13) (Int32.toNatClampNeg (v 30)) v_15)) 26 (upd ((va_up f 13 (upd (f 13) (Int32.toNatClampNeg (v 30)) v_15)) 26) (Int32.toNatClampNeg (v 33)) (6 : Int32))) := WL.upf 26 hL (by decide)
                  replace hf := MIf.up 27 (i := (Int32.toNatClampNeg (v 33))) hf (ow_any (126 : Int32))
                  replace hF_0 := FF.up hF_0 27 (upd ((va_up (va_up f 13 (upd (f 13) (Int32.toNatClampNeg (v 30)) v_15)) 26 (upd ((va_up f 13 (upd (f 13) (Int32.toNatClampNeg (v 30)) v_15)) 26) (Int32.toNatClampNeg (v 33)) (6 : Int32))) 27) (Int32.toNatClampNeg (v 33)) (126 : Int32)) (by decide)
                  replace hR : RI (va_up v18 33 ((v 33) + 1)) (va_up (va_up (va_up f 13 (upd (f 13) (Int32.toNatClampNeg (v 30)) v_15)) 26 (upd ((va_up f 13 (upd (f 13) (Int32.toNatClampNeg (v 30)) v_15)) 26) (Int32.toNatClampNeg (v 33)) (6 : Int32))) 27 (upd ((va_up (va_up f 13 (upd (f 13) (Int32.toNatClampNeg (v 30)) v_15)) 26 (upd ((va_up f 13 (upd (f 13) (Int32.toNatClampNeg (v 30)) v_15)) 26) (Int32.toNatClampNeg (v 33)) (6 : Int32))) 27) (Int32.toNatClampNeg (v 33)) (126 : Int32))) := RI.up 27 hR (by decide)
                  replace hL : WL (va_up v18 33 ((v 33) + 1)) (va_up (va_up (va_up f 13 (upd (f 13) (Int32.toNatClampNeg (v 30)) v_15)) 26 (upd ((va_up f 13 (upd (f 13) (Int32.toNatClampNeg (v 30)) v_15)) 26) (Int32.toNatClampNeg (v 33)) (6 : Int32))) 27 (upd ((va_up (va_up f 13 (upd (f 13) (Int32.toNatClampNeg (v 30)) v_15)) 26 (upd ((va_up f 13 (upd (f 13) (Int32.toNatClampNeg (v 30)) v_15)) 26) (Int32.toNatClampNeg (v 33)) (6 : Int32))) 27) (Int32.toNatClampNeg (v 33)) (126 : Int32))) := WL.upf 27 hL (by decide)
                  have hP : va_P G vwCl (WMs cy mo h (va_up v18 33 ((v 33) + 1)) nm18 (va_up (va_up (va_up f 13 (upd (f 13) (Int32.toNatClampNeg (v 30)) v_15)) 26 (upd ((va_up f 13 (upd (f 13) (Int32.toNatClampNeg (v 30)) v_15)) 26) (Int32.toNatClampNeg (v 33)) (6 : Int32))) 27 (upd ((va_up (va_up f 13 (upd (f 13) (Int32.toNatClampNeg (v 30)) v_15)) 26 (upd ((va_up f 13 (upd (f 13) (Int32.toNatClampNeg (v 30)) v_15)) 26) (Int32.toNatClampNeg (v 33)) (6 : Int32))) 27) (Int32.toNatClampNeg (v 33)) (126 : Int32))) g) H := hP1
                  have hD : va_D A (WMs cy mo h (va_up v18 33 ((v 33) + 1)) nm18 (va_up (va_up (va_up f 13 (upd (f 13) (Int32.toNatClampNeg (v 30)) v_15)) 26 (upd ((va_up f 13 (upd (f 13) (Int32.toNatClampNeg (v 30)) v_15)) 26) (Int32.toNatClampNeg (v 33)) (6 : Int32))) 27 (upd ((va_up (va_up f 13 (upd (f 13) (Int32.toNatClampNeg (v 30)) v_15)) 26 (upd ((va_up f 13 (upd (f 13) (Int32.toNatClampNeg (v 30)) v_15)) 26) (Int32.toNatClampNeg (v 33)) (6 : Int32))) 27) (Int32.toNatClampNeg (v 33)) (126 : Int32))) g) := hD1.weaken (fun _ _ _ h => hFc _ h)
                  clear hFc hk1 hz1 hP1 hD1 hw
                  refine lv_aload_n hx hb dX12_unit_190 rfl (lv_at hl 5 rfl) ?_
                  refine lv_dup hx hb dX12_unit_191 rfl ?_
                  refine mg_32 hx hb ht hown hK hP dX12_unit_192 ?_
                  refine ow_top (v 32) ((xu_18V 32 (by decide)).trans (hV_5 32 (by decide))) ?_
                  have q_84 : 0 ≤ (v 32).toInt ∧ (v 32).toInt ≤ 7 := by have h9 : (va_up v18 33 ((v 33) + 1)) 32 = (v 32) := ((xu_18V 32 (by decide)).trans (hV_5 32 (by decide))); rw [← h9]; exact hv 32
                  refine lv_iconst (v := 1) hx hb dX12_unit_195 (by decide) ?_
                  refine lv_iadd hx hb dX12_unit_196 ?_
                  refine lv_topi (fun v_85 ev_85 => ?_)
                  have q_86 : v_85.toInt = (v 32).toInt + (1 : Int32).toInt := ow_add ev_85 (by omega) (by omega)
                  refine mp_32 hx hb ht hown hK hP hD hS dX12_unit_197 (fun H locs hP hD hS => ?_)
                  replace hv := MIv.up 32 hv (show 0 ≤ v_85.toInt ∧ v_85.toInt ≤ 7 from by omega)
                  replace hL : WL (va_up (va_up v18 33 ((v 33) + 1)) 32 v_85) (va_up (va_up (va_up f 13 (upd (f 13) (Int32.toNatClampNeg (v 30)) v_15)) 26 (upd ((va_up f 13 (upd (f 13) (Int32.toNatClampNeg (v 30)) v_15)) 26) (Int32.toNatClampNeg (v 33)) (6 : Int32))) 27 (upd ((va_up (va_up f 13 (upd (f 13) (Int32.toNatClampNeg (v 30)) v_15)) 26 (upd ((va_up f 13 (upd (f 13) (Int32.toNatClampNeg (v 30)) v_15)) 26) (Int32.toNatClampNeg (v 33)) (6 : Int32))) 27) (Int32.toNatClampNeg (v 33)) (126 : Int32))) := WL.upv 32 hL (by decide)
                  replace hR : RI (va_up (va_up v18 33 ((v 33) + 1)) 32 v_85) (va_up (va_up (va_up f 13 (upd (f 13) (Int32.toNatClampNeg (v 30)) v_15)) 26 (upd ((va_up f 13 (upd (f 13) (Int32.toNatClampNeg (v 30)) v_15)) 26) (Int32.toNatClampNeg (v 33)) (6 : Int32))) 27 (upd ((va_up (va_up f 13 (upd (f 13) (Int32.toNatClampNeg (v 30)) v_15)) 26 (upd ((va_up f 13 (upd (f 13) (Int32.toNatClampNeg (v 30)) v_15)) 26) (Int32.toNatClampNeg (v 33)) (6 : Int32))) 27) (Int32.toNatClampNeg (v 33)) (126 : Int32))) := RI.upv 32 hR (by decide)
                  replace hV_0 := FV.up hV_0 32 v_85 (by decide)
                  refine lv_iconst (v := 1) hx hb dX12_unit_200 (by decide) ?_
                  refine W.widen (k := 0) (n := 0) (Nat.le_of_ble_eq_true rfl) (Nat.le_of_ble_eq_true rfl) ?_
                  exact W.zret (v := 1) hx hb hr rfl (fun t ht9 hW => ⟨⟨1, ((va_up (va_up v18 33 ((v 33) + 1)) 32 v_85), nm18, (va_up (va_up (va_up f 13 (upd (f 13) (Int32.toNatClampNeg (v 30)) v_15)) 26 (upd ((va_up f 13 (upd (f 13) (Int32.toNatClampNeg (v 30)) v_15)) 26) (Int32.toNatClampNeg (v 33)) (6 : Int32))) 27 (upd ((va_up (va_up f 13 (upd (f 13) (Int32.toNatClampNeg (v 30)) v_15)) 26 (upd ((va_up f 13 (upd (f 13) (Int32.toNatClampNeg (v 30)) v_15)) 26) (Int32.toNatClampNeg (v 33)) (6 : Int32))) 27) (Int32.toNatClampNeg (v 33)) (126 : Int32))), g), rfl, ⟨hv, hf, hR, hL, hV_0, hF_0, ⟨(by omega), (show (v18 7).toInt ≤ (v 3).toInt from by first | omega | (subst_vars; first | rfl | omega))⟩, (show 0 ≤ mz (v 3).toInt (v18 7).toInt (v18 8).toInt ∧ mz (v 3).toInt (v18 7).toInt (v18 8).toInt ≤ mz (v 3).toInt (v 7).toInt (v 8).toInt ∧ ((v18 4).toInt ≠ 0 ∨ mz (v 3).toInt (v18 7).toInt (v18 8).toInt < mz (v 3).toInt (v 7).toInt (v 8).toInt) from by rw [(show v18 4 = (v5 4) from (xu_18V 4 (by decide)))]; omega), (show (v18 4).toInt = 0 → EI (1 : Int32).toInt (v 30).toInt Fz (v18 31).toInt ((v 33) + 1).toInt v_85.toInt ((upd (f 13) (Int32.toNatClampNeg (v 30)) v_15) (Int32.toNatClampNeg (v 30))).toInt (upd (f 26) (Int32.toNatClampNeg (v 33)) (6 : Int32)) (upd (f 27) (Int32.toNatClampNeg (v 33)) (126 : Int32)) (f 24) (f 25) from by rw [(show v18 4 = (v5 4) from (xu_18V 4 (by decide))), (show v18 31 = (v 31) from ((xu_18V 31 (by decide)).trans (hV_5 31 (by decide))))]; exact fun h9 => EI.cast (EI.grow hE (by omega) (by omega) (by omega)) (by omega) (by omega) (by omega) (by omega) rfl), (show OUT Fz (600 * (v 30).toInt + 600) (f 24) (f 25) (f 24) (f 25) from by exact OUT.rf)⟩, ⟨by rw [ht9]; exact hP, hD⟩⟩, hS.F ht9⟩) hS.2.2 dX12_unit_201
                · have q_87 : ¬ y0_2.toInt = (0 : Int32).toInt := by have := (not_congr (ow_eq _ _)).mp c_79; omega
                  exfalso
                  omega
          refine lv_iload_n hx hb dX12_unit_145 rfl (lv_at hl 2 rfl) ?_
          refine lv_if_eq (tgt := 153) hx hb dX12_unit_146 (by decide) (fun c_88 => ?_) (fun c_88 => ?_)
          · have q_89 : y0_2.toInt = (0 : Int32).toInt := (ow_eq _ _).mp c_88
            refine lv_iconst (v := 1) hx hb dX12_unit_153 (by decide) ?_
            refine W.widen (k := 0) (n := 0) (Nat.le_of_ble_eq_true rfl) (Nat.le_of_ble_eq_true rfl) ?_
            exact jn_14 (1) _ _ _ (by omega) (by omega) hP hD hS (lv_sub hl [0, 1, 2, 3, 4] rfl)
          · have q_90 : ¬ y0_2.toInt = (0 : Int32).toInt := by have := (not_congr (ow_eq _ _)).mp c_88; omega
            refine lv_iconst (v := 0) hx hb dX12_unit_149 (by decide) ?_
            refine lv_goto (tgt := 154) hx hb dX12_unit_150 (by decide) ?_
            refine W.widen (k := 0) (n := 0) (Nat.le_of_ble_eq_true rfl) (Nat.le_of_ble_eq_true rfl) ?_
            exact jn_14 (0) _ _ _ (by omega) (by omega) hP hD hS (lv_sub hl [0, 1, 2, 3, 4] rfl)
        · have q_91 : r_u_6.toInt = (0 : Int32).toInt := (ow_eq _ _).mp c_7
          refine lv_iconst (v := 1) hx hb dX12_unit_133 (by decide) ?_
          refine W.widen (k := 0) (n := 0) (Nat.le_of_ble_eq_true rfl) (Nat.le_of_ble_eq_true rfl) ?_
          exact W.zret (v := 1) hx hb hr rfl (fun t ht9 hW => ⟨⟨1, (v5, nm5, f, g), rfl, ⟨hv, hf, hR, hL, hV_0, hF_0, ⟨(by omega), (show (v5 7).toInt ≤ (v 3).toInt from by rw [(show v5 7 = (v 7) from (hV_5 7 (by decide)))]; first | omega | (subst_vars; first | rfl | omega))⟩, (show 0 ≤ mz (v 3).toInt (v5 7).toInt (v5 8).toInt ∧ mz (v 3).toInt (v5 7).toInt (v5 8).toInt ≤ mz (v 3).toInt (v 7).toInt (v 8).toInt ∧ ((v5 4).toInt ≠ 0 ∨ mz (v 3).toInt (v5 7).toInt (v5 8).toInt < mz (v 3).toInt (v 7).toInt (v 8).toInt) from by rw [(show v5 7 = (v 7) from (hV_5 7 (by decide))), (show v5 8 = (v 8) from (hV_5 8 (by decide)))]; omega), (show (v5 4).toInt = 0 → EI (1 : Int32).toInt (v 30).toInt Fz (v5 31).toInt (v5 33).toInt (v5 32).toInt ((f 13) (Int32.toNatClampNeg (v 30))).toInt (f 26) (f 27) (f 24) (f 25) from by rw [(show v5 31 = (v 31) from (hV_5 31 (by decide))), (show v5 33 = (v 33) from (hV_5 33 (by decide))), (show v5 32 = (v 32) from (hV_5 32 (by decide)))]; exact fun h9 => absurd h9 (by omega)), (show OUT Fz (600 * (v 30).toInt + 600) (f 24) (f 25) (f 24) (f 25) from by exact OUT.rf)⟩, ⟨by rw [ht9]; exact hP, hD⟩⟩, hS.F ht9⟩) hS.2.2 dX12_unit_134
      replace hW_5 : FV [4, 5] v v := FV.rf
      refine lv_iload_n hx hb dX12_unit_70 rfl (lv_at hl 2 rfl) ?_
      refine lv_if_ne (tgt := 105) hx hb dX12_unit_71 (by decide) (fun c_92 => ?_) (fun c_92 => ?_)
      · have q_93 : ¬ y0_2.toInt = (0 : Int32).toInt := by have := (not_congr (ow_eq _ _)).mp c_92; omega
        refine lv_iload_n hx hb dX12_unit_105 rfl (lv_at hl 2 rfl) ?_
        refine lv_if_ne (tgt := 113) hx hb dX12_unit_106 (by decide) (fun c_94 => ?_) (fun c_94 => ?_)
        · have q_95 : ¬ y0_2.toInt = (0 : Int32).toInt := by have := (not_congr (ow_eq _ _)).mp c_94; omega
          refine lv_aload_n hx hb dX12_unit_113 rfl (lv_at hl 4 rfl) ?_
          refine mg_32 hx hb ht hown hK hP dX12_unit_114 ?_
          have q_96 : 0 ≤ (v 32).toInt ∧ (v 32).toInt ≤ 7 := hv 32
          refine lv_bipush (v := 7) hx hb dX12_unit_117 (by decide) ?_
          refine lv_icmp_ne (tgt := 126) hx hb dX12_unit_119 (by decide) (fun c_97 => ?_) (fun c_97 => ?_)
          · have q_98 : ¬ (v 32).toInt = (7 : Int32).toInt := by have := (not_congr (ow_eq _ _)).mp c_97; omega
            refine W.widen (k := 0) (n := 0) (Nat.le_of_ble_eq_true rfl) (Nat.le_of_ble_eq_true rfl) ?_
            exact jn_5 v nm _ _ _ hv hW_5 (show (v 4).toInt ≠ 0 ∨ ((v 8).toInt ≠ 0 ∧ (y0_2.toInt = 1 ∨ (f 13 (Int32.toNatClampNeg (v 30))).toInt ≠ 60) ∧ ((y0_2.toInt = 0 ∧ r_u_3.toInt = 0) ∨ (v 32).toInt ≠ 7)) from by omega) hP hD hS (lv_sub hl [0, 1, 2, 3, 4] rfl)
          · have q_99 : (v 32).toInt = (7 : Int32).toInt := (ow_eq _ _).mp c_97
            refine lv_aload_n hx hb dX12_unit_122 rfl (lv_at hl 4 rfl) ?_
            have hFc := fr_free hD hS hA
            refine va_callv (va_runV (As := []) (rest := []) ⟨hx, hb, hml, hown, ht⟩ (m_misplaced l G cy _ mo h T v nm f g   hv hf hR hL) (cwV 0 ht (gv k_228 k_229 k_230 k_61 k_227) rfl rfl rfl (by decide +kernel) ⟨Nat.le_of_ble_eq_true rfl, Nat.le_of_ble_eq_true rfl⟩) ⟨En.blind, va_recv hK hP (ci := 12) (q0 := 0) rfl rfl, fun U hU hW => ⟨rfl, En.of hU hW hP hK hD hN⟩⟩ rfl rfl hl.1 rfl (lv_room (Nat.le_of_ble_eq_true rfl)) dX12_unit_123 ⟨Nat.le_of_ble_eq_true rfl, Nat.le_of_ble_eq_true rfl⟩) hS (fun q _ h => hFc q h) hFc (fun u_100 t9 H locs ht9 hvm hw hB hz1 hk1 hS => ?_)
            obtain ⟨v100, nm100⟩ := u_100
            obtain ⟨hP1, hD1⟩ := hB
            rw [ht9] at hP1
            obtain ⟨hv, xu_100V, wu_100⟩ := hw
            dsimp only at hv xu_100V wu_100
            have hP : va_P G vwCl (WMs cy mo h v100 nm100 f g) H := hP1
            have hD : va_D A (WMs cy mo h v100 nm100 f g) := hD1.weaken (fun _ _ _ h => hFc _ h)
            replace hR : RI v100 f := RI.fv hR xu_100V (by decide)
            replace hL : WL v100 f := WL.fv hL xu_100V (by decide) (by decide)
            replace hV_0 := FV.tr hV_0 xu_100V (by decide)
            replace hW_5 := FV.tr hW_5 xu_100V (by decide)
            clear hFc hk1 hz1 hP1 hD1
            replace wu_100 : (1 ≤ (v100 4).toInt) := wu_100
            refine W.widen (k := 0) (n := 0) (Nat.le_of_ble_eq_true rfl) (Nat.le_of_ble_eq_true rfl) ?_
            exact jn_5 v100 nm100 _ _ _ hv hW_5 (show (v100 4).toInt ≠ 0 ∨ ((v 8).toInt ≠ 0 ∧ (y0_2.toInt = 1 ∨ (f 13 (Int32.toNatClampNeg (v 30))).toInt ≠ 60) ∧ ((y0_2.toInt = 0 ∧ r_u_3.toInt = 0) ∨ (v 32).toInt ≠ 7)) from by omega) hP hD hS (lv_sub hl [0, 1, 2, 3, 4] rfl)
        · have q_101 : y0_2.toInt = (0 : Int32).toInt := (ow_eq _ _).mp c_94
          exfalso
          omega
      · have q_102 : y0_2.toInt = (0 : Int32).toInt := (ow_eq _ _).mp c_92
        refine lv_iload hx hb dX12_unit_74 (lv_at hl 0 rfl) ?_
        refine lv_if_ne (tgt := 91) hx hb dX12_unit_76 (by decide) (fun c_103 => ?_) (fun c_103 => ?_)
        · have q_104 : ¬ r_u_4.toInt = (0 : Int32).toInt := by have := (not_congr (ow_eq _ _)).mp c_103; omega
          refine lv_aload_n hx hb dX12_unit_91 rfl (lv_at hl 4 rfl) ?_
          refine mg_13 hx hb ht hown hK hP dX12_unit_92 ?_
          refine lv_aload_n hx hb dX12_unit_95 rfl (lv_at hl 4 rfl) ?_
          refine mg_30 hx hb ht hown hK hP dX12_unit_96 ?_
          have q_105 : 0 ≤ (v 30).toInt ∧ (v 30).toInt ≤ 1 := hv 30
          have q_106 : vp_in (v 30) 2 := vp_in_iff.mpr ⟨by omega, by omega⟩
          refine ml_13 hx hb hK hP q_106 dX12_unit_99 ?_
          refine lv_topi (fun v_107 ev_107 => ?_)
          have q_108 : 0 ≤ v_107.toInt ∧ v_107.toInt ≤ 60 := by rw [ev_107]; exact MIf.rd 13 hf q_106
          have q_109 : v_107.toInt = ((f 13) (Int32.toNatClampNeg (v 30))).toInt := (congrArg Int32.toInt ev_107).trans (congrArg (fun z : Nat → Int32 => (z (Int32.toNatClampNeg (v 30))).toInt) (show f 13 = (f 13) from rfl))
          refine lv_bipush (v := 60) hx hb dX12_unit_100 (by decide) ?_
          refine lv_icmp_eq (tgt := 122) hx hb dX12_unit_102 (by decide) (fun c_110 => ?_) (fun c_110 => ?_)
          · have q_111 : v_107.toInt = (60 : Int32).toInt := (ow_eq _ _).mp c_110
            refine lv_aload_n hx hb dX12_unit_122 rfl (lv_at hl 4 rfl) ?_
            have hFc := fr_free hD hS hA
            refine va_callv (va_runV (As := []) (rest := []) ⟨hx, hb, hml, hown, ht⟩ (m_misplaced l G cy _ mo h T v nm f g   hv hf hR hL) (cwV 0 ht (gv k_228 k_229 k_230 k_61 k_227) rfl rfl rfl (by decide +kernel) ⟨Nat.le_of_ble_eq_true rfl, Nat.le_of_ble_eq_true rfl⟩) ⟨En.blind, va_recv hK hP (ci := 12) (q0 := 0) rfl rfl, fun U hU hW => ⟨rfl, En.of hU hW hP hK hD hN⟩⟩ rfl rfl hl.1 rfl (lv_room (Nat.le_of_ble_eq_true rfl)) dX12_unit_123 ⟨Nat.le_of_ble_eq_true rfl, Nat.le_of_ble_eq_true rfl⟩) hS (fun q _ h => hFc q h) hFc (fun u_112 t9 H locs ht9 hvm hw hB hz1 hk1 hS => ?_)
            obtain ⟨v112, nm112⟩ := u_112
            obtain ⟨hP1, hD1⟩ := hB
            rw [ht9] at hP1
            obtain ⟨hv, xu_112V, wu_112⟩ := hw
            dsimp only at hv xu_112V wu_112
            have hP : va_P G vwCl (WMs cy mo h v112 nm112 f g) H := hP1
            have hD : va_D A (WMs cy mo h v112 nm112 f g) := hD1.weaken (fun _ _ _ h => hFc _ h)
            replace hR : RI v112 f := RI.fv hR xu_112V (by decide)
            replace hL : WL v112 f := WL.fv hL xu_112V (by decide) (by decide)
            replace hV_0 := FV.tr hV_0 xu_112V (by decide)
            replace hW_5 := FV.tr hW_5 xu_112V (by decide)
            clear hFc hk1 hz1 hP1 hD1
            replace wu_112 : (1 ≤ (v112 4).toInt) := wu_112
            refine W.widen (k := 0) (n := 0) (Nat.le_of_ble_eq_true rfl) (Nat.le_of_ble_eq_true rfl) ?_
            exact jn_5 v112 nm112 _ _ _ hv hW_5 (show (v112 4).toInt ≠ 0 ∨ ((v 8).toInt ≠ 0 ∧ (y0_2.toInt = 1 ∨ (f 13 (Int32.toNatClampNeg (v 30))).toInt ≠ 60) ∧ ((y0_2.toInt = 0 ∧ r_u_3.toInt = 0) ∨ (v 32).toInt ≠ 7)) from by omega) hP hD hS (lv_sub hl [0, 1, 2, 3, 4] rfl)
          · have q_113 : ¬ v_107.toInt = (60 : Int32).toInt := by have := (not_congr (ow_eq _ _)).mp c_110; omega
            refine lv_iload_n hx hb dX12_unit_105 rfl (lv_at hl 2 rfl) ?_
            refine lv_if_ne (tgt := 113) hx hb dX12_unit_106 (by decide) (fun c_114 => ?_) (fun c_114 => ?_)
            · have q_115 : ¬ y0_2.toInt = (0 : Int32).toInt := by have := (not_congr (ow_eq _ _)).mp c_114; omega
              exfalso
              omega
            · have q_116 : y0_2.toInt = (0 : Int32).toInt := (ow_eq _ _).mp c_114
              refine lv_iload_n hx hb dX12_unit_109 rfl (lv_at hl 1 rfl) ?_
              refine lv_if_eq (tgt := 126) hx hb dX12_unit_110 (by decide) (fun c_117 => ?_) (fun c_117 => ?_)
              · have q_118 : r_u_3.toInt = (0 : Int32).toInt := (ow_eq _ _).mp c_117
                refine W.widen (k := 0) (n := 0) (Nat.le_of_ble_eq_true rfl) (Nat.le_of_ble_eq_true rfl) ?_
                exact jn_5 v nm _ _ _ hv hW_5 (show (v 4).toInt ≠ 0 ∨ ((v 8).toInt ≠ 0 ∧ (y0_2.toInt = 1 ∨ (f 13 (Int32.toNatClampNeg (v 30))).toInt ≠ 60) ∧ ((y0_2.toInt = 0 ∧ r_u_3.toInt = 0) ∨ (v 32).toInt ≠ 7)) from by omega) hP hD hS (lv_sub hl [0, 1, 2, 3, 4] rfl)
              · have q_119 : ¬ r_u_3.toInt = (0 : Int32).toInt := by have := (not_congr (ow_eq _ _)).mp c_117; omega
                refine lv_aload_n hx hb dX12_unit_113 rfl (lv_at hl 4 rfl) ?_
                refine mg_32 hx hb ht hown hK hP dX12_unit_114 ?_
                have q_120 : 0 ≤ (v 32).toInt ∧ (v 32).toInt ≤ 7 := hv 32
                refine lv_bipush (v := 7) hx hb dX12_unit_117 (by decide) ?_
                refine lv_icmp_ne (tgt := 126) hx hb dX12_unit_119 (by decide) (fun c_121 => ?_) (fun c_121 => ?_)
                · have q_122 : ¬ (v 32).toInt = (7 : Int32).toInt := by have := (not_congr (ow_eq _ _)).mp c_121; omega
                  refine W.widen (k := 0) (n := 0) (Nat.le_of_ble_eq_true rfl) (Nat.le_of_ble_eq_true rfl) ?_
                  exact jn_5 v nm _ _ _ hv hW_5 (show (v 4).toInt ≠ 0 ∨ ((v 8).toInt ≠ 0 ∧ (y0_2.toInt = 1 ∨ (f 13 (Int32.toNatClampNeg (v 30))).toInt ≠ 60) ∧ ((y0_2.toInt = 0 ∧ r_u_3.toInt = 0) ∨ (v 32).toInt ≠ 7)) from by omega) hP hD hS (lv_sub hl [0, 1, 2, 3, 4] rfl)
                · have q_123 : (v 32).toInt = (7 : Int32).toInt := (ow_eq _ _).mp c_121
                  refine lv_aload_n hx hb dX12_unit_122 rfl (lv_at hl 4 rfl) ?_
                  have hFc := fr_free hD hS hA
                  refine va_callv (va_runV (As := []) (rest := []) ⟨hx, hb, hml, hown, ht⟩ (m_misplaced l G cy _ mo h T v nm f g   hv hf hR hL) (cwV 0 ht (gv k_228 k_229 k_230 k_61 k_227) rfl rfl rfl (by decide +kernel) ⟨Nat.le_of_ble_eq_true rfl, Nat.le_of_ble_eq_true rfl⟩) ⟨En.blind, va_recv hK hP (ci := 12) (q0 := 0) rfl rfl, fun U hU hW => ⟨rfl, En.of hU hW hP hK hD hN⟩⟩ rfl rfl hl.1 rfl (lv_room (Nat.le_of_ble_eq_true rfl)) dX12_unit_123 ⟨Nat.le_of_ble_eq_true rfl, Nat.le_of_ble_eq_true rfl⟩) hS (fun q _ h => hFc q h) hFc (fun u_124 t9 H locs ht9 hvm hw hB hz1 hk1 hS => ?_)
                  obtain ⟨v124, nm124⟩ := u_124
                  obtain ⟨hP1, hD1⟩ := hB
                  rw [ht9] at hP1
                  obtain ⟨hv, xu_124V, wu_124⟩ := hw
                  dsimp only at hv xu_124V wu_124
                  have hP : va_P G vwCl (WMs cy mo h v124 nm124 f g) H := hP1
                  have hD : va_D A (WMs cy mo h v124 nm124 f g) := hD1.weaken (fun _ _ _ h => hFc _ h)
                  replace hR : RI v124 f := RI.fv hR xu_124V (by decide)
                  replace hL : WL v124 f := WL.fv hL xu_124V (by decide) (by decide)
                  replace hV_0 := FV.tr hV_0 xu_124V (by decide)
                  replace hW_5 := FV.tr hW_5 xu_124V (by decide)
                  clear hFc hk1 hz1 hP1 hD1
                  replace wu_124 : (1 ≤ (v124 4).toInt) := wu_124
                  refine W.widen (k := 0) (n := 0) (Nat.le_of_ble_eq_true rfl) (Nat.le_of_ble_eq_true rfl) ?_
                  exact jn_5 v124 nm124 _ _ _ hv hW_5 (show (v124 4).toInt ≠ 0 ∨ ((v 8).toInt ≠ 0 ∧ (y0_2.toInt = 1 ∨ (f 13 (Int32.toNatClampNeg (v 30))).toInt ≠ 60) ∧ ((y0_2.toInt = 0 ∧ r_u_3.toInt = 0) ∨ (v 32).toInt ≠ 7)) from by omega) hP hD hS (lv_sub hl [0, 1, 2, 3, 4] rfl)
        · have q_125 : r_u_4.toInt = (0 : Int32).toInt := (ow_eq _ _).mp c_103
          refine lv_aload_n hx hb dX12_unit_79 rfl (lv_at hl 4 rfl) ?_
          refine mg_8 hx hb ht hown hK hP dX12_unit_80 ?_
          refine lv_iconst (v := 4) hx hb dX12_unit_83 (by decide) ?_
          refine lv_icmp_eq (tgt := 91) hx hb dX12_unit_84 (by decide) (fun c_126 => ?_) (fun c_126 => ?_)
          · have q_127 : (v 8).toInt = (4 : Int32).toInt := (ow_eq _ _).mp c_126
            refine lv_aload_n hx hb dX12_unit_91 rfl (lv_at hl 4 rfl) ?_
            refine mg_13 hx hb ht hown hK hP dX12_unit_92 ?_
            refine lv_aload_n hx hb dX12_unit_95 rfl (lv_at hl 4 rfl) ?_
            refine mg_30 hx hb ht hown hK hP dX12_unit_96 ?_
            have q_128 : 0 ≤ (v 30).toInt ∧ (v 30).toInt ≤ 1 := hv 30
            have q_129 : vp_in (v 30) 2 := vp_in_iff.mpr ⟨by omega, by omega⟩
            refine ml_13 hx hb hK hP q_129 dX12_unit_99 ?_
            refine lv_topi (fun v_130 ev_130 => ?_)
            have q_131 : 0 ≤ v_130.toInt ∧ v_130.toInt ≤ 60 := by rw [ev_130]; exact MIf.rd 13 hf q_129
            have q_132 : v_130.toInt = ((f 13) (Int32.toNatClampNeg (v 30))).toInt := (congrArg Int32.toInt ev_130).trans (congrArg (fun z : Nat → Int32 => (z (Int32.toNatClampNeg (v 30))).toInt) (show f 13 = (f 13) from rfl))
            refine lv_bipush (v := 60) hx hb dX12_unit_100 (by decide) ?_
            refine lv_icmp_eq (tgt := 122) hx hb dX12_unit_102 (by decide) (fun c_133 => ?_) (fun c_133 => ?_)
            · have q_134 : v_130.toInt = (60 : Int32).toInt := (ow_eq _ _).mp c_133
              refine lv_aload_n hx hb dX12_unit_122 rfl (lv_at hl 4 rfl) ?_
              have hFc := fr_free hD hS hA
              refine va_callv (va_runV (As := []) (rest := []) ⟨hx, hb, hml, hown, ht⟩ (m_misplaced l G cy _ mo h T v nm f g   hv hf hR hL) (cwV 0 ht (gv k_228 k_229 k_230 k_61 k_227) rfl rfl rfl (by decide +kernel) ⟨Nat.le_of_ble_eq_true rfl, Nat.le_of_ble_eq_true rfl⟩) ⟨En.blind, va_recv hK hP (ci := 12) (q0 := 0) rfl rfl, fun U hU hW => ⟨rfl, En.of hU hW hP hK hD hN⟩⟩ rfl rfl hl.1 rfl (lv_room (Nat.le_of_ble_eq_true rfl)) dX12_unit_123 ⟨Nat.le_of_ble_eq_true rfl, Nat.le_of_ble_eq_true rfl⟩) hS (fun q _ h => hFc q h) hFc (fun u_135 t9 H locs ht9 hvm hw hB hz1 hk1 hS => ?_)
              obtain ⟨v135, nm135⟩ := u_135
              obtain ⟨hP1, hD1⟩ := hB
              rw [ht9] at hP1
              obtain ⟨hv, xu_135V, wu_135⟩ := hw
              dsimp only at hv xu_135V wu_135
              have hP : va_P G vwCl (WMs cy mo h v135 nm135 f g) H := hP1
              have hD : va_D A (WMs cy mo h v135 nm135 f g) := hD1.weaken (fun _ _ _ h => hFc _ h)
              replace hR : RI v135 f := RI.fv hR xu_135V (by decide)
              replace hL : WL v135 f := WL.fv hL xu_135V (by decide) (by decide)
              replace hV_0 := FV.tr hV_0 xu_135V (by decide)
              replace hW_5 := FV.tr hW_5 xu_135V (by decide)
              clear hFc hk1 hz1 hP1 hD1
              replace wu_135 : (1 ≤ (v135 4).toInt) := wu_135
              refine W.widen (k := 0) (n := 0) (Nat.le_of_ble_eq_true rfl) (Nat.le_of_ble_eq_true rfl) ?_
              exact jn_5 v135 nm135 _ _ _ hv hW_5 (show (v135 4).toInt ≠ 0 ∨ ((v 8).toInt ≠ 0 ∧ (y0_2.toInt = 1 ∨ (f 13 (Int32.toNatClampNeg (v 30))).toInt ≠ 60) ∧ ((y0_2.toInt = 0 ∧ r_u_3.toInt = 0) ∨ (v 32).toInt ≠ 7)) from by omega) hP hD hS (lv_sub hl [0, 1, 2, 3, 4] rfl)
            · have q_136 : ¬ v_130.toInt = (60 : Int32).toInt := by have := (not_congr (ow_eq _ _)).mp c_133; omega
              refine lv_iload_n hx hb dX12_unit_105 rfl (lv_at hl 2 rfl) ?_
              refine lv_if_ne (tgt := 113) hx hb dX12_unit_106 (by decide) (fun c_137 => ?_) (fun c_137 => ?_)
              · have q_138 : ¬ y0_2.toInt = (0 : Int32).toInt := by have := (not_congr (ow_eq _ _)).mp c_137; omega
                exfalso
                omega
              · have q_139 : y0_2.toInt = (0 : Int32).toInt := (ow_eq _ _).mp c_137
                refine lv_iload_n hx hb dX12_unit_109 rfl (lv_at hl 1 rfl) ?_
                refine lv_if_eq (tgt := 126) hx hb dX12_unit_110 (by decide) (fun c_140 => ?_) (fun c_140 => ?_)
                · have q_141 : r_u_3.toInt = (0 : Int32).toInt := (ow_eq _ _).mp c_140
                  refine W.widen (k := 0) (n := 0) (Nat.le_of_ble_eq_true rfl) (Nat.le_of_ble_eq_true rfl) ?_
                  exact jn_5 v nm _ _ _ hv hW_5 (show (v 4).toInt ≠ 0 ∨ ((v 8).toInt ≠ 0 ∧ (y0_2.toInt = 1 ∨ (f 13 (Int32.toNatClampNeg (v 30))).toInt ≠ 60) ∧ ((y0_2.toInt = 0 ∧ r_u_3.toInt = 0) ∨ (v 32).toInt ≠ 7)) from by omega) hP hD hS (lv_sub hl [0, 1, 2, 3, 4] rfl)
                · have q_142 : ¬ r_u_3.toInt = (0 : Int32).toInt := by have := (not_congr (ow_eq _ _)).mp c_140; omega
                  refine lv_aload_n hx hb dX12_unit_113 rfl (lv_at hl 4 rfl) ?_
                  refine mg_32 hx hb ht hown hK hP dX12_unit_114 ?_
                  have q_143 : 0 ≤ (v 32).toInt ∧ (v 32).toInt ≤ 7 := hv 32
                  refine lv_bipush (v := 7) hx hb dX12_unit_117 (by decide) ?_
                  refine lv_icmp_ne (tgt := 126) hx hb dX12_unit_119 (by decide) (fun c_144 => ?_) (fun c_144 => ?_)
                  · have q_145 : ¬ (v 32).toInt = (7 : Int32).toInt := by have := (not_congr (ow_eq _ _)).mp c_144; omega
                    refine W.widen (k := 0) (n := 0) (Nat.le_of_ble_eq_true rfl) (Nat.le_of_ble_eq_true rfl) ?_
                    exact jn_5 v nm _ _ _ hv hW_5 (show (v 4).toInt ≠ 0 ∨ ((v 8).toInt ≠ 0 ∧ (y0_2.toInt = 1 ∨ (f 13 (Int32.toNatClampNeg (v 30))).toInt ≠ 60) ∧ ((y0_2.toInt = 0 ∧ r_u_3.toInt = 0) ∨ (v 32).toInt ≠ 7)) from by omega) hP hD hS (lv_sub hl [0, 1, 2, 3, 4] rfl)
                  · have q_146 : (v 32).toInt = (7 : Int32).toInt := (ow_eq _ _).mp c_144
                    refine lv_aload_n hx hb dX12_unit_122 rfl (lv_at hl 4 rfl) ?_
                    have hFc := fr_free hD hS hA
                    refine va_callv (va_runV (As := []) (rest := []) ⟨hx, hb, hml, hown, ht⟩ (m_misplaced l G cy _ mo h T v nm f g   hv hf hR hL) (cwV 0 ht (gv k_228 k_229 k_230 k_61 k_227) rfl rfl rfl (by decide +kernel) ⟨Nat.le_of_ble_eq_true rfl, Nat.le_of_ble_eq_true rfl⟩) ⟨En.blind, va_recv hK hP (ci := 12) (q0 := 0) rfl rfl, fun U hU hW => ⟨rfl, En.of hU hW hP hK hD hN⟩⟩ rfl rfl hl.1 rfl (lv_room (Nat.le_of_ble_eq_true rfl)) dX12_unit_123 ⟨Nat.le_of_ble_eq_true rfl, Nat.le_of_ble_eq_true rfl⟩) hS (fun q _ h => hFc q h) hFc (fun u_147 t9 H locs ht9 hvm hw hB hz1 hk1 hS => ?_)
                    obtain ⟨v147, nm147⟩ := u_147
                    obtain ⟨hP1, hD1⟩ := hB
                    rw [ht9] at hP1
                    obtain ⟨hv, xu_147V, wu_147⟩ := hw
                    dsimp only at hv xu_147V wu_147
                    have hP : va_P G vwCl (WMs cy mo h v147 nm147 f g) H := hP1
                    have hD : va_D A (WMs cy mo h v147 nm147 f g) := hD1.weaken (fun _ _ _ h => hFc _ h)
                    replace hR : RI v147 f := RI.fv hR xu_147V (by decide)
                    replace hL : WL v147 f := WL.fv hL xu_147V (by decide) (by decide)
                    replace hV_0 := FV.tr hV_0 xu_147V (by decide)
                    replace hW_5 := FV.tr hW_5 xu_147V (by decide)
                    clear hFc hk1 hz1 hP1 hD1
                    replace wu_147 : (1 ≤ (v147 4).toInt) := wu_147
                    refine W.widen (k := 0) (n := 0) (Nat.le_of_ble_eq_true rfl) (Nat.le_of_ble_eq_true rfl) ?_
                    exact jn_5 v147 nm147 _ _ _ hv hW_5 (show (v147 4).toInt ≠ 0 ∨ ((v 8).toInt ≠ 0 ∧ (y0_2.toInt = 1 ∨ (f 13 (Int32.toNatClampNeg (v 30))).toInt ≠ 60) ∧ ((y0_2.toInt = 0 ∧ r_u_3.toInt = 0) ∨ (v 32).toInt ≠ 7)) from by omega) hP hD hS (lv_sub hl [0, 1, 2, 3, 4] rfl)
          · have q_148 : ¬ (v 8).toInt = (4 : Int32).toInt := by have := (not_congr (ow_eq _ _)).mp c_126; omega
            refine lv_iload_n hx hb dX12_unit_87 rfl (lv_at hl 1 rfl) ?_
            refine lv_if_eq (tgt := 122) hx hb dX12_unit_88 (by decide) (fun c_149 => ?_) (fun c_149 => ?_)
            · have q_150 : r_u_3.toInt = (0 : Int32).toInt := (ow_eq _ _).mp c_149
              refine lv_aload_n hx hb dX12_unit_122 rfl (lv_at hl 4 rfl) ?_
              have hFc := fr_free hD hS hA
              refine va_callv (va_runV (As := []) (rest := []) ⟨hx, hb, hml, hown, ht⟩ (m_misplaced l G cy _ mo h T v nm f g   hv hf hR hL) (cwV 0 ht (gv k_228 k_229 k_230 k_61 k_227) rfl rfl rfl (by decide +kernel) ⟨Nat.le_of_ble_eq_true rfl, Nat.le_of_ble_eq_true rfl⟩) ⟨En.blind, va_recv hK hP (ci := 12) (q0 := 0) rfl rfl, fun U hU hW => ⟨rfl, En.of hU hW hP hK hD hN⟩⟩ rfl rfl hl.1 rfl (lv_room (Nat.le_of_ble_eq_true rfl)) dX12_unit_123 ⟨Nat.le_of_ble_eq_true rfl, Nat.le_of_ble_eq_true rfl⟩) hS (fun q _ h => hFc q h) hFc (fun u_151 t9 H locs ht9 hvm hw hB hz1 hk1 hS => ?_)
              obtain ⟨v151, nm151⟩ := u_151
              obtain ⟨hP1, hD1⟩ := hB
              rw [ht9] at hP1
              obtain ⟨hv, xu_151V, wu_151⟩ := hw
              dsimp only at hv xu_151V wu_151
              have hP : va_P G vwCl (WMs cy mo h v151 nm151 f g) H := hP1
              have hD : va_D A (WMs cy mo h v151 nm151 f g) := hD1.weaken (fun _ _ _ h => hFc _ h)
              replace hR : RI v151 f := RI.fv hR xu_151V (by decide)
              replace hL : WL v151 f := WL.fv hL xu_151V (by decide) (by decide)
              replace hV_0 := FV.tr hV_0 xu_151V (by decide)
              replace hW_5 := FV.tr hW_5 xu_151V (by decide)
              clear hFc hk1 hz1 hP1 hD1
              replace wu_151 : (1 ≤ (v151 4).toInt) := wu_151
              refine W.widen (k := 0) (n := 0) (Nat.le_of_ble_eq_true rfl) (Nat.le_of_ble_eq_true rfl) ?_
              exact jn_5 v151 nm151 _ _ _ hv hW_5 (show (v151 4).toInt ≠ 0 ∨ ((v 8).toInt ≠ 0 ∧ (y0_2.toInt = 1 ∨ (f 13 (Int32.toNatClampNeg (v 30))).toInt ≠ 60) ∧ ((y0_2.toInt = 0 ∧ r_u_3.toInt = 0) ∨ (v 32).toInt ≠ 7)) from by omega) hP hD hS (lv_sub hl [0, 1, 2, 3, 4] rfl)
            · have q_152 : ¬ r_u_3.toInt = (0 : Int32).toInt := by have := (not_congr (ow_eq _ _)).mp c_149; omega
              refine lv_aload_n hx hb dX12_unit_91 rfl (lv_at hl 4 rfl) ?_
              refine mg_13 hx hb ht hown hK hP dX12_unit_92 ?_
              refine lv_aload_n hx hb dX12_unit_95 rfl (lv_at hl 4 rfl) ?_
              refine mg_30 hx hb ht hown hK hP dX12_unit_96 ?_
              have q_153 : 0 ≤ (v 30).toInt ∧ (v 30).toInt ≤ 1 := hv 30
              have q_154 : vp_in (v 30) 2 := vp_in_iff.mpr ⟨by omega, by omega⟩
              refine ml_13 hx hb hK hP q_154 dX12_unit_99 ?_
              refine lv_topi (fun v_155 ev_155 => ?_)
              have q_156 : 0 ≤ v_155.toInt ∧ v_155.toInt ≤ 60 := by rw [ev_155]; exact MIf.rd 13 hf q_154
              have q_157 : v_155.toInt = ((f 13) (Int32.toNatClampNeg (v 30))).toInt := (congrArg Int32.toInt ev_155).trans (congrArg (fun z : Nat → Int32 => (z (Int32.toNatClampNeg (v 30))).toInt) (show f 13 = (f 13) from rfl))
              refine lv_bipush (v := 60) hx hb dX12_unit_100 (by decide) ?_
              refine lv_icmp_eq (tgt := 122) hx hb dX12_unit_102 (by decide) (fun c_158 => ?_) (fun c_158 => ?_)
              · have q_159 : v_155.toInt = (60 : Int32).toInt := (ow_eq _ _).mp c_158
                refine lv_aload_n hx hb dX12_unit_122 rfl (lv_at hl 4 rfl) ?_
                have hFc := fr_free hD hS hA
                refine va_callv (va_runV (As := []) (rest := []) ⟨hx, hb, hml, hown, ht⟩ (m_misplaced l G cy _ mo h T v nm f g   hv hf hR hL) (cwV 0 ht (gv k_228 k_229 k_230 k_61 k_227) rfl rfl rfl (by decide +kernel) ⟨Nat.le_of_ble_eq_true rfl, Nat.le_of_ble_eq_true rfl⟩) ⟨En.blind, va_recv hK hP (ci := 12) (q0 := 0) rfl rfl, fun U hU hW => ⟨rfl, En.of hU hW hP hK hD hN⟩⟩ rfl rfl hl.1 rfl (lv_room (Nat.le_of_ble_eq_true rfl)) dX12_unit_123 ⟨Nat.le_of_ble_eq_true rfl, Nat.le_of_ble_eq_true rfl⟩) hS (fun q _ h => hFc q h) hFc (fun u_160 t9 H locs ht9 hvm hw hB hz1 hk1 hS => ?_)
                obtain ⟨v160, nm160⟩ := u_160
                obtain ⟨hP1, hD1⟩ := hB
                rw [ht9] at hP1
                obtain ⟨hv, xu_160V, wu_160⟩ := hw
                dsimp only at hv xu_160V wu_160
                have hP : va_P G vwCl (WMs cy mo h v160 nm160 f g) H := hP1
                have hD : va_D A (WMs cy mo h v160 nm160 f g) := hD1.weaken (fun _ _ _ h => hFc _ h)
                replace hR : RI v160 f := RI.fv hR xu_160V (by decide)
                replace hL : WL v160 f := WL.fv hL xu_160V (by decide) (by decide)
                replace hV_0 := FV.tr hV_0 xu_160V (by decide)
                replace hW_5 := FV.tr hW_5 xu_160V (by decide)
                clear hFc hk1 hz1 hP1 hD1
                replace wu_160 : (1 ≤ (v160 4).toInt) := wu_160
                refine W.widen (k := 0) (n := 0) (Nat.le_of_ble_eq_true rfl) (Nat.le_of_ble_eq_true rfl) ?_
                exact jn_5 v160 nm160 _ _ _ hv hW_5 (show (v160 4).toInt ≠ 0 ∨ ((v 8).toInt ≠ 0 ∧ (y0_2.toInt = 1 ∨ (f 13 (Int32.toNatClampNeg (v 30))).toInt ≠ 60) ∧ ((y0_2.toInt = 0 ∧ r_u_3.toInt = 0) ∨ (v 32).toInt ≠ 7)) from by omega) hP hD hS (lv_sub hl [0, 1, 2, 3, 4] rfl)
              · have q_161 : ¬ v_155.toInt = (60 : Int32).toInt := by have := (not_congr (ow_eq _ _)).mp c_158; omega
                refine lv_iload_n hx hb dX12_unit_105 rfl (lv_at hl 2 rfl) ?_
                refine lv_if_ne (tgt := 113) hx hb dX12_unit_106 (by decide) (fun c_162 => ?_) (fun c_162 => ?_)
                · have q_163 : ¬ y0_2.toInt = (0 : Int32).toInt := by have := (not_congr (ow_eq _ _)).mp c_162; omega
                  exfalso
                  omega
                · have q_164 : y0_2.toInt = (0 : Int32).toInt := (ow_eq _ _).mp c_162
                  refine lv_iload_n hx hb dX12_unit_109 rfl (lv_at hl 1 rfl) ?_
                  refine lv_if_eq (tgt := 126) hx hb dX12_unit_110 (by decide) (fun c_165 => ?_) (fun c_165 => ?_)
                  · have q_166 : r_u_3.toInt = (0 : Int32).toInt := (ow_eq _ _).mp c_165
                    exfalso
                    omega
                  · have q_167 : ¬ r_u_3.toInt = (0 : Int32).toInt := by have := (not_congr (ow_eq _ _)).mp c_165; omega
                    refine lv_aload_n hx hb dX12_unit_113 rfl (lv_at hl 4 rfl) ?_
                    refine mg_32 hx hb ht hown hK hP dX12_unit_114 ?_
                    have q_168 : 0 ≤ (v 32).toInt ∧ (v 32).toInt ≤ 7 := hv 32
                    refine lv_bipush (v := 7) hx hb dX12_unit_117 (by decide) ?_
                    refine lv_icmp_ne (tgt := 126) hx hb dX12_unit_119 (by decide) (fun c_169 => ?_) (fun c_169 => ?_)
                    · have q_170 : ¬ (v 32).toInt = (7 : Int32).toInt := by have := (not_congr (ow_eq _ _)).mp c_169; omega
                      refine W.widen (k := 0) (n := 0) (Nat.le_of_ble_eq_true rfl) (Nat.le_of_ble_eq_true rfl) ?_
                      exact jn_5 v nm _ _ _ hv hW_5 (show (v 4).toInt ≠ 0 ∨ ((v 8).toInt ≠ 0 ∧ (y0_2.toInt = 1 ∨ (f 13 (Int32.toNatClampNeg (v 30))).toInt ≠ 60) ∧ ((y0_2.toInt = 0 ∧ r_u_3.toInt = 0) ∨ (v 32).toInt ≠ 7)) from by omega) hP hD hS (lv_sub hl [0, 1, 2, 3, 4] rfl)
                    · have q_171 : (v 32).toInt = (7 : Int32).toInt := (ow_eq _ _).mp c_169
                      refine lv_aload_n hx hb dX12_unit_122 rfl (lv_at hl 4 rfl) ?_
                      have hFc := fr_free hD hS hA
                      refine va_callv (va_runV (As := []) (rest := []) ⟨hx, hb, hml, hown, ht⟩ (m_misplaced l G cy _ mo h T v nm f g   hv hf hR hL) (cwV 0 ht (gv k_228 k_229 k_230 k_61 k_227) rfl rfl rfl (by decide +kernel) ⟨Nat.le_of_ble_eq_true rfl, Nat.le_of_ble_eq_true rfl⟩) ⟨En.blind, va_recv hK hP (ci := 12) (q0 := 0) rfl rfl, fun U hU hW => ⟨rfl, En.of hU hW hP hK hD hN⟩⟩ rfl rfl hl.1 rfl (lv_room (Nat.le_of_ble_eq_true rfl)) dX12_unit_123 ⟨Nat.le_of_ble_eq_true rfl, Nat.le_of_ble_eq_true rfl⟩) hS (fun q _ h => hFc q h) hFc (fun u_172 t9 H locs ht9 hvm hw hB hz1 hk1 hS => ?_)
                      obtain ⟨v172, nm172⟩ := u_172
                      obtain ⟨hP1, hD1⟩ := hB
                      rw [ht9] at hP1
                      obtain ⟨hv, xu_172V, wu_172⟩ := hw
                      dsimp only at hv xu_172V wu_172
                      have hP : va_P G vwCl (WMs cy mo h v172 nm172 f g) H := hP1
                      have hD : va_D A (WMs cy mo h v172 nm172 f g) := hD1.weaken (fun _ _ _ h => hFc _ h)
                      replace hR : RI v172 f := RI.fv hR xu_172V (by decide)
                      replace hL : WL v172 f := WL.fv hL xu_172V (by decide) (by decide)
                      replace hV_0 := FV.tr hV_0 xu_172V (by decide)
                      replace hW_5 := FV.tr hW_5 xu_172V (by decide)
                      clear hFc hk1 hz1 hP1 hD1
                      replace wu_172 : (1 ≤ (v172 4).toInt) := wu_172
                      refine W.widen (k := 0) (n := 0) (Nat.le_of_ble_eq_true rfl) (Nat.le_of_ble_eq_true rfl) ?_
                      exact jn_5 v172 nm172 _ _ _ hv hW_5 (show (v172 4).toInt ≠ 0 ∨ ((v 8).toInt ≠ 0 ∧ (y0_2.toInt = 1 ∨ (f 13 (Int32.toNatClampNeg (v 30))).toInt ≠ 60) ∧ ((y0_2.toInt = 0 ∧ r_u_3.toInt = 0) ∨ (v 32).toInt ≠ 7)) from by omega) hP hD hS (lv_sub hl [0, 1, 2, 3, 4] rfl)
    refine lv_iload_n hx hb dX12_unit_37 rfl (lv_at hl 0 rfl) ?_
    refine lv_if_eq (tgt := 55) hx hb dX12_unit_38 (by decide) (fun c_173 => ?_) (fun c_173 => ?_)
    · have q_174 : y0_1.toInt = (0 : Int32).toInt := (ow_eq _ _).mp c_173
      refine lv_iconst (v := 0) hx hb dX12_unit_55 (by decide) ?_
      refine W.widen (k := 0) (n := 0) (Nat.le_of_ble_eq_true rfl) (Nat.le_of_ble_eq_true rfl) ?_
      exact jn_2 (0) _ _ _ (by omega) (by omega) hP hD hS (lv_sub hl [0, 1] rfl)
    · have q_175 : ¬ y0_1.toInt = (0 : Int32).toInt := by have := (not_congr (ow_eq _ _)).mp c_173; omega
      refine lv_aload_n hx hb dX12_unit_41 rfl (lv_at hl 1 rfl) ?_
      refine lv_ldc2 (v := 7237492) hx hb hown (ht _ k_197) dX12_unit_42 ?_
      have hFc := fr_new hS hA
      refine va_calli (va_runV (As := [.long (7237492 : Int64)]) (rest := []) ⟨hx, hb, hml, hown, ht⟩ (m_isWord l G cy _ mo h T v nm f g (7237492 : Int64)  hv hf hR hL) (cwV 1 ht (gv k_240 k_241 k_242 k_61 k_239) rfl rfl rfl (by decide +kernel) ⟨Nat.le_of_ble_eq_true rfl, Nat.le_of_ble_eq_true rfl⟩) ⟨En.blind, va_recv hK hP (ci := 12) (q0 := 0) rfl rfl, fun U hU hW => ⟨rfl, En.of hU hW hP hK hD hN⟩⟩ rfl rfl hl.1 rfl (lv_room (Nat.le_of_ble_eq_true rfl)) dX12_unit_45 ⟨Nat.le_of_ble_eq_true rfl, Nat.le_of_ble_eq_true rfl⟩) hS (fun q _ h => hFc q h) hFc (fun r_u_176 u_176 t9 H locs ht9 hvm hw hB hz1 hk1 hS => ?_)
      have hP := fr_keep hP hk1
      obtain ⟨wu_176, xu_176_W⟩ := hw
      clear hFc hk1 hz1 hB
      replace wu_176 : (r_u_176.toInt = 0 ∨ r_u_176.toInt = 1) ∧ (r_u_176.toInt = 0 ∨ (v 8).toInt = 3) := wu_176
      replace xu_176_W : (r_u_176.toInt = 1 → nm = (7237492 : Int64)) ∧ (r_u_176.toInt = 0 → (v 8).toInt = 3 → ¬ nm = (7237492 : Int64)) := by
        have h9 : (r_u_176.toInt = 1 → nm = (7237492 : Int64)) ∧ (r_u_176.toInt = 0 → (v 8).toInt = 3 → ¬ nm = (7237492 : Int64)) := xu_176_W
        exact h9
      refine lv_if_eq (tgt := 55) hx hb dX12_unit_48 (by decide) (fun c_177 => ?_) (fun c_177 => ?_)
      · have q_178 : r_u_176.toInt = (0 : Int32).toInt := (ow_eq _ _).mp c_177
        refine lv_iconst (v := 0) hx hb dX12_unit_55 (by decide) ?_
        refine W.widen (k := 0) (n := 0) (Nat.le_of_ble_eq_true rfl) (Nat.le_of_ble_eq_true rfl) ?_
        exact jn_2 (0) _ _ _ (by omega) (by omega) hP hD hS (lv_sub hl [0, 1] rfl)
      · have q_179 : ¬ r_u_176.toInt = (0 : Int32).toInt := by have := (not_congr (ow_eq _ _)).mp c_177; omega
        refine lv_iconst (v := 1) hx hb dX12_unit_51 (by decide) ?_
        refine lv_goto (tgt := 56) hx hb dX12_unit_52 (by decide) ?_
        refine W.widen (k := 0) (n := 0) (Nat.le_of_ble_eq_true rfl) (Nat.le_of_ble_eq_true rfl) ?_
        exact jn_2 (1) _ _ _ (by omega) (by omega) hP hD hS (lv_sub hl [0, 1] rfl)
  refine lv_aload_n hx hb dX12_unit_0 rfl (lv_at hl 0 rfl) ?_
  refine mg_26 hx hb ht hown hK hP dX12_unit_1 ?_
  refine lv_aload_n hx hb dX12_unit_4 rfl (lv_at hl 0 rfl) ?_
  refine mg_33 hx hb ht hown hK hP dX12_unit_5 ?_
  have q_180 : 0 ≤ (v 33).toInt ∧ (v 33).toInt ≤ 120 := hv 33
  refine lv_iconst (v := 1) hx hb dX12_unit_8 (by decide) ?_
  refine lv_isub hx hb dX12_unit_9 ?_
  refine lv_topi (fun v_181 ev_181 => ?_)
  have q_182 : v_181.toInt = (v 33).toInt - (1 : Int32).toInt := ow_sub ev_181 (by omega) (by omega)
  have q_183 : vp_in v_181 120 := vp_in_iff.mpr ⟨by omega, by omega⟩
  refine ml_26 hx hb hK hP q_183 dX12_unit_10 ?_
  refine lv_topi (fun v_184 ev_184 => ?_)
  have q_185 : v_184.toInt = ((f 26) (Int32.toNatClampNeg v_181)).toInt := (congrArg Int32.toInt ev_184).trans (congrArg (fun z : Nat → Int32 => (z (Int32.toNatClampNeg v_181)).toInt) (show f 26 = (f 26) from rfl))
  refine lv_iconst (v := 3) hx hb dX12_unit_11 (by decide) ?_
  refine lv_icmp_le (tgt := 31) hx hb dX12_unit_12 (by decide) (fun c_186 => ?_) (fun c_186 => ?_)
  · have q_187 : v_184.toInt ≤ (3 : Int32).toInt := (ow_le _ _).mp c_186
    refine lv_iconst (v := 1) hx hb dX12_unit_31 (by decide) ?_
    refine lv_goto (tgt := 36) hx hb dX12_unit_32 (by decide) ?_
    refine W.widen (k := 0) (n := 0) (Nat.le_of_ble_eq_true rfl) (Nat.le_of_ble_eq_true rfl) ?_
    exact jn_1 (1) _ _ _ (by omega) hP hD hS (lv_sub hl [0] rfl)
  · have q_188 : (3 : Int32).toInt < v_184.toInt := by have := (not_congr (ow_le _ _)).mp c_186; omega
    refine lv_aload_n hx hb dX12_unit_15 rfl (lv_at hl 0 rfl) ?_
    refine mg_26 hx hb ht hown hK hP dX12_unit_16 ?_
    refine lv_aload_n hx hb dX12_unit_19 rfl (lv_at hl 0 rfl) ?_
    refine mg_33 hx hb ht hown hK hP dX12_unit_20 ?_
    refine lv_iconst (v := 1) hx hb dX12_unit_23 (by decide) ?_
    refine lv_isub hx hb dX12_unit_24 ?_
    refine lv_topi (fun v_189 ev_189 => ?_)
    have q_190 : v_189.toInt = (v 33).toInt - (1 : Int32).toInt := ow_sub ev_189 (by omega) (by omega)
    have q_191 : vp_in v_189 120 := vp_in_iff.mpr ⟨by omega, by omega⟩
    refine ml_26 hx hb hK hP q_191 dX12_unit_25 ?_
    refine lv_topi (fun v_192 ev_192 => ?_)
    have q_193 : v_192.toInt = ((f 26) (Int32.toNatClampNeg v_189)).toInt := (congrArg Int32.toInt ev_192).trans (congrArg (fun z : Nat → Int32 => (z (Int32.toNatClampNeg v_189)).toInt) (show f 26 = (f 26) from rfl))
    refine lv_bipush (v := 6) hx hb dX12_unit_26 (by decide) ?_
    refine lv_icmp_lt (tgt := 35) hx hb dX12_unit_28 (by decide) (fun c_194 => ?_) (fun c_194 => ?_)
    · have q_195 : v_192.toInt < (6 : Int32).toInt := (ow_lt _ _).mp c_194
      refine lv_iconst (v := 0) hx hb dX12_unit_35 (by decide) ?_
      refine W.widen (k := 0) (n := 0) (Nat.le_of_ble_eq_true rfl) (Nat.le_of_ble_eq_true rfl) ?_
      exact jn_1 (0) _ _ _ (by omega) hP hD hS (lv_sub hl [0] rfl)
    · have q_196 : (6 : Int32).toInt ≤ v_192.toInt := by have := (not_congr (ow_lt _ _)).mp c_194; omega
      refine lv_iconst (v := 1) hx hb dX12_unit_31 (by decide) ?_
      refine lv_goto (tgt := 36) hx hb dX12_unit_32 (by decide) ?_
      refine W.widen (k := 0) (n := 0) (Nat.le_of_ble_eq_true rfl) (Nat.le_of_ble_eq_true rfl) ?_
      exact jn_1 (1) _ _ _ (by omega) hP hD hS (lv_sub hl [0] rfl)
