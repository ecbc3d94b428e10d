theorem k_247 : (Cond.code yX12_wordHere cX12_wordHere 1 (some .int)) ∈ TBg := tb_mem 1302 (by decide +kernel) (by decide +kernel)
theorem k_248 : (Cond.methodLink RX12 299 yX12_wordHere) ∈ TBg := tb_mem 1299 (by decide +kernel) (by decide +kernel)
theorem k_249 : (Cond.instanceMethod yX12_wordHere) ∈ TBg := tb_mem 1301 (by decide +kernel) (by decide +kernel)
theorem k_250 : (Cond.selects RX12 yX12_wordHere yX12_wordHere) ∈ TBg := tb_mem 51 (by decide +kernel) (by decide +kernel)
theorem k_251 : (Cond.code yX12_pushE cX12_pushE 3 none) ∈ TBg := tb_mem 1290 (by decide +kernel) (by decide +kernel)
theorem k_252 : (Cond.methodLink RX12 290 yX12_pushE) ∈ TBg := tb_mem 1287 (by decide +kernel) (by decide +kernel)
theorem k_253 : (Cond.instanceMethod yX12_pushE) ∈ TBg := tb_mem 1289 (by decide +kernel) (by decide +kernel)
theorem k_254 : (Cond.selects RX12 yX12_pushE yX12_pushE) ∈ TBg := tb_mem 48 (by decide +kernel) (by decide +kernel)
theorem k_255 : (Cond.code yX12_emit cX12_emit 3 none) ∈ TBg := tb_mem 1306 (by decide +kernel) (by decide +kernel)
theorem k_256 : (Cond.methodLink RX12 302 yX12_emit) ∈ TBg := tb_mem 1303 (by decide +kernel) (by decide +kernel)
theorem k_257 : (Cond.instanceMethod yX12_emit) ∈ TBg := tb_mem 1305 (by decide +kernel) (by decide +kernel)
theorem k_258 : (Cond.selects RX12 yX12_emit yX12_emit) ∈ TBg := tb_mem 52 (by decide +kernel) (by decide +kernel)
theorem k_259 : (Cond.code yX12_tuneHere cX12_tuneHere 1 (some .int)) ∈ TBg := tb_mem 1262 (by decide +kernel) (by decide +kernel)
theorem k_260 : (Cond.methodLink RX12 269 yX12_tuneHere) ∈ TBg := tb_mem 1259 (by decide +kernel) (by decide +kernel)
theorem k_261 : (Cond.instanceMethod yX12_tuneHere) ∈ TBg := tb_mem 1261 (by decide +kernel) (by decide +kernel)
theorem k_262 : (Cond.selects RX12 yX12_tuneHere yX12_tuneHere) ∈ TBg := tb_mem 41 (by decide +kernel) (by decide +kernel)
theorem k_263 : (Cond.code yX12_rankHere cX12_rankHere 1 (some .int)) ∈ TBg := tb_mem 1314 (by decide +kernel) (by decide +kernel)
theorem k_264 : (Cond.methodLink RX12 305 yX12_rankHere) ∈ TBg := tb_mem 1311 (by decide +kernel) (by decide +kernel)
theorem k_265 : (Cond.instanceMethod yX12_rankHere) ∈ TBg := tb_mem 1313 (by decide +kernel) (by decide +kernel)
theorem k_266 : (Cond.selects RX12 yX12_rankHere yX12_rankHere) ∈ TBg := tb_mem 54 (by decide +kernel) (by decide +kernel)
theorem k_267 : (Cond.code yX12_must cX12_must 2 none) ∈ TBg := tb_mem 1274 (by decide +kernel) (by decide +kernel)
theorem k_268 : (Cond.methodLink RX12 261 yX12_must) ∈ TBg := tb_mem 1271 (by decide +kernel) (by decide +kernel)
theorem k_269 : (Cond.instanceMethod yX12_must) ∈ TBg := tb_mem 1273 (by decide +kernel) (by decide +kernel)
theorem k_270 : (Cond.selects RX12 yX12_must yX12_must) ∈ TBg := tb_mem 44 (by decide +kernel) (by decide +kernel)
theorem k_271 : (Cond.code yX12_isCompared cX12_isCompared 2 (some .boolean)) ∈ TBg := tb_mem 1318 (by decide +kernel) (by decide +kernel)
theorem k_272 : (Cond.methodLink RX12 308 yX12_isCompared) ∈ TBg := tb_mem 1315 (by decide +kernel) (by decide +kernel)
theorem k_273 : (Cond.instanceMethod yX12_isCompared) ∈ TBg := tb_mem 1317 (by decide +kernel) (by decide +kernel)
theorem k_274 : (Cond.selects RX12 yX12_isCompared yX12_isCompared) ∈ TBg := tb_mem 55 (by decide +kernel) (by decide +kernel)
theorem k_275 : (Cond.code yX12_behindUnit cX12_behindUnit 2 (some .boolean)) ∈ TBg := tb_mem 1310 (by decide +kernel) (by decide +kernel)
theorem k_276 : (Cond.methodLink RX12 296 yX12_behindUnit) ∈ TBg := tb_mem 1307 (by decide +kernel) (by decide +kernel)
theorem k_277 : (Cond.instanceMethod yX12_behindUnit) ∈ TBg := tb_mem 1309 (by decide +kernel) (by decide +kernel)
theorem k_278 : (Cond.selects RX12 yX12_behindUnit yX12_behindUnit) ∈ TBg := tb_mem 53 (by decide +kernel) (by decide +kernel)
theorem k_279 : (Cond.code yX12_unit cX12_unit 6 (some .boolean)) ∈ TBg := tb_mem 1294 (by decide +kernel) (by decide +kernel)
theorem k_280 : (Cond.methodLink RX12 293 yX12_unit) ∈ TBg := tb_mem 1291 (by decide +kernel) (by decide +kernel)
theorem k_281 : (Cond.instanceMethod yX12_unit) ∈ TBg := tb_mem 1293 (by decide +kernel) (by decide +kernel)
theorem k_282 : (Cond.selects RX12 yX12_unit yX12_unit) ∈ TBg := tb_mem 49 (by decide +kernel) (by decide +kernel)
theorem dX12_unit_36 : decode cX12_unit 36 = .ok (.istore_n 1, 1) := by decide +kernel
theorem dX12_unit_56 : decode cX12_unit 56 = .ok (.istore_n 2, 1) := by decide +kernel
theorem dX12_unit_57 : decode cX12_unit 57 = .ok (.aload_n 0, 1) := by decide +kernel
theorem dX12_unit_58 : decode cX12_unit 58 = .ok (.bipush 40, 2) := by decide +kernel
theorem dX12_unit_60 : decode cX12_unit 60 = .ok (.invokevirtual 258, 3) := by decide +kernel
theorem dX12_unit_63 : decode cX12_unit 63 = .ok (.istore_n 3, 1) := by decide +kernel
theorem dX12_unit_64 : decode cX12_unit 64 = .ok (.aload_n 0, 1) := by decide +kernel
theorem dX12_unit_65 : decode cX12_unit 65 = .ok (.invokevirtual 299, 3) := by decide +kernel
theorem dX12_unit_68 : decode cX12_unit 68 = .ok (.istore 4, 2) := by decide +kernel
theorem dX12_unit_126 : decode cX12_unit 126 = .ok (.aload_n 0, 1) := by decide +kernel
theorem dX12_unit_127 : decode cX12_unit 127 = .ok (.invokevirtual 208, 3) := by decide +kernel
theorem dX12_unit_130 : decode cX12_unit 130 = .ok (.ifCond .ne 5, 3) := by decide +kernel
theorem dX12_unit_135 : decode cX12_unit 135 = .ok (.aload_n 0, 1) := by decide +kernel
theorem dX12_unit_136 : decode cX12_unit 136 = .ok (.getfield 27, 3) := by decide +kernel
theorem dX12_unit_139 : decode cX12_unit 139 = .ok (.aload_n 0, 1) := by decide +kernel
theorem dX12_unit_140 : decode cX12_unit 140 = .ok (.getfield 218, 3) := by decide +kernel
theorem dX12_unit_143 : decode cX12_unit 143 = .ok (.dup2, 1) := by decide +kernel
theorem dX12_unit_144 : decode cX12_unit 144 = .ok (.iaload, 1) := by decide +kernel
theorem dX12_unit_154 : decode cX12_unit 154 = .ok (.iadd, 1) := by decide +kernel
theorem dX12_unit_155 : decode cX12_unit 155 = .ok (.iastore, 1) := by decide +kernel
theorem dX12_unit_156 : decode cX12_unit 156 = .ok (.aload_n 0, 1) := by decide +kernel
theorem dX12_unit_157 : decode cX12_unit 157 = .ok (.getfield 198, 3) := by decide +kernel
theorem dX12_unit_160 : decode cX12_unit 160 = .ok (.istore 5, 2) := by decide +kernel
theorem dX12_unit_162 : decode cX12_unit 162 = .ok (.aload_n 0, 1) := by decide +kernel
theorem dX12_unit_163 : decode cX12_unit 163 = .ok (.invokevirtual 212, 3) := by decide +kernel
theorem dX12_unit_166 : decode cX12_unit 166 = .ok (.iload_n 2, 1) := by decide +kernel
theorem dX12_unit_167 : decode cX12_unit 167 = .ok (.ifCond .ne 7, 3) := by decide +kernel
theorem dX12_unit_174 : decode cX12_unit 174 = .ok (.aload_n 0, 1) := by decide +kernel
theorem dX12_unit_175 : decode cX12_unit 175 = .ok (.iload_n 2, 1) := by decide +kernel
theorem dX12_unit_176 : decode cX12_unit 176 = .ok (.ifCond .eq 7, 3) := by decide +kernel
theorem dX12_unit_179 : decode cX12_unit 179 = .ok (.iconst 3, 1) := by decide +kernel
theorem dX12_unit_180 : decode cX12_unit 180 = .ok (.goto 5, 3) := by decide +kernel
theorem dX12_unit_185 : decode cX12_unit 185 = .ok (.bipush 126, 2) := by decide +kernel
theorem dX12_unit_187 : decode cX12_unit 187 = .ok (.invokevirtual 290, 3) := by decide +kernel
theorem dX12_unit_190 : decode cX12_unit 190 = .ok (.aload_n 0, 1) := by decide +kernel
theorem dX12_unit_191 : decode cX12_unit 191 = .ok (.dup, 1) := by decide +kernel
theorem dX12_unit_192 : decode cX12_unit 192 = .ok (.getfield 287, 3) := by decide +kernel
theorem dX12_unit_195 : decode cX12_unit 195 = .ok (.iconst 1, 1) := by decide +kernel
theorem dX12_unit_196 : decode cX12_unit 196 = .ok (.iadd, 1) := by decide +kernel
theorem dX12_unit_197 : decode cX12_unit 197 = .ok (.putfield 287, 3) := by decide +kernel
theorem dX12_unit_200 : decode cX12_unit 200 = .ok (.iconst 1, 1) := by decide +kernel
theorem dX12_unit_201 : decode cX12_unit 201 = .ok (.ireturn, 1) := by decide +kernel
theorem dX12_unit_170 : decode cX12_unit 170 = .ok (.iload_n 3, 1) := by decide +kernel
theorem dX12_unit_171 : decode cX12_unit 171 = .ok (.ifCond .eq 31, 3) := by decide +kernel
theorem dX12_unit_269 : decode cX12_unit 269 = .ok (.aload_n 0, 1) := by decide +kernel
theorem dX12_unit_270 : decode cX12_unit 270 = .ok (.iload 4, 2) := by decide +kernel
theorem dX12_unit_272 : decode cX12_unit 272 = .ok (.ifCond .ne 8, 3) := by decide +kernel
theorem dX12_unit_280 : decode cX12_unit 280 = .ok (.iload 4, 2) := by decide +kernel
theorem dX12_unit_282 : decode cX12_unit 282 = .ok (.iload 5, 2) := by decide +kernel
theorem dX12_unit_284 : decode cX12_unit 284 = .ok (.invokevirtual 302, 3) := by decide +kernel
theorem dX12_unit_287 : decode cX12_unit 287 = .ok (.iconst 0, 1) := by decide +kernel
theorem dX12_unit_288 : decode cX12_unit 288 = .ok (.ireturn, 1) := by decide +kernel
theorem dX12_unit_275 : decode cX12_unit 275 = .ok (.bipush 107, 2) := by decide +kernel
theorem dX12_unit_277 : decode cX12_unit 277 = .ok (.goto 5, 3) := by decide +kernel
theorem dX12_unit_223 : decode cX12_unit 223 = .ok (.aload_n 0, 1) := by decide +kernel
theorem dX12_unit_224 : decode cX12_unit 224 = .ok (.invokevirtual 269, 3) := by decide +kernel
theorem dX12_unit_227 : decode cX12_unit 227 = .ok (.istore 5, 2) := by decide +kernel
theorem dX12_unit_229 : decode cX12_unit 229 = .ok (.aload_n 0, 1) := by decide +kernel
theorem dX12_unit_230 : decode cX12_unit 230 = .ok (.getfield 180, 3) := by decide +kernel
theorem dX12_unit_233 : decode cX12_unit 233 = .ok (.iconst 2, 1) := by decide +kernel
theorem dX12_unit_234 : decode cX12_unit 234 = .ok (.if_icmp .eq 10, 3) := by decide +kernel
theorem dX12_unit_244 : decode cX12_unit 244 = .ok (.iload 5, 2) := by decide +kernel
theorem dX12_unit_246 : decode cX12_unit 246 = .ok (.ifCond .ge 12, 3) := by decide +kernel
theorem dX12_unit_258 : decode cX12_unit 258 = .ok (.aload_n 0, 1) := by decide +kernel
theorem dX12_unit_259 : decode cX12_unit 259 = .ok (.invokevirtual 208, 3) := by decide +kernel
theorem dX12_unit_262 : decode cX12_unit 262 = .ok (.ifCond .eq 7, 3) := by decide +kernel
theorem dX12_unit_265 : decode cX12_unit 265 = .ok (.aload_n 0, 1) := by decide +kernel
theorem dX12_unit_266 : decode cX12_unit 266 = .ok (.invokevirtual 212, 3) := by decide +kernel
theorem dX12_unit_249 : decode cX12_unit 249 = .ok (.aload_n 0, 1) := by decide +kernel
theorem dX12_unit_250 : decode cX12_unit 250 = .ok (.iconst 5, 1) := by decide +kernel
theorem dX12_unit_251 : decode cX12_unit 251 = .ok (.aload_n 0, 1) := by decide +kernel
theorem dX12_unit_252 : decode cX12_unit 252 = .ok (.getfield 173, 3) := by decide +kernel
theorem dX12_unit_255 : decode cX12_unit 255 = .ok (.invokevirtual 204, 3) := by decide +kernel
theorem dX12_unit_237 : decode cX12_unit 237 = .ok (.aload_n 0, 1) := by decide +kernel
theorem dX12_unit_238 : decode cX12_unit 238 = .ok (.invokevirtual 215, 3) := by decide +kernel
theorem dX12_unit_241 : decode cX12_unit 241 = .ok (.goto 17, 3) := by decide +kernel
theorem dX12_unit_202 : decode cX12_unit 202 = .ok (.iload 4, 2) := by decide +kernel
theorem dX12_unit_204 : decode cX12_unit 204 = .ok (.bipush 105, 2) := by decide +kernel
theorem dX12_unit_206 : decode cX12_unit 206 = .ok (.if_icmp .eq 17, 3) := by decide +kernel
theorem dX12_unit_209 : decode cX12_unit 209 = .ok (.iload 4, 2) := by decide +kernel
theorem dX12_unit_211 : decode cX12_unit 211 = .ok (.bipush 98, 2) := by decide +kernel
theorem dX12_unit_213 : decode cX12_unit 213 = .ok (.if_icmp .eq 10, 3) := by decide +kernel
theorem dX12_unit_216 : decode cX12_unit 216 = .ok (.iload 4, 2) := by decide +kernel
theorem dX12_unit_218 : decode cX12_unit 218 = .ok (.bipush 101, 2) := by decide +kernel
theorem dX12_unit_220 : decode cX12_unit 220 = .ok (.if_icmp .ne 49, 3) := by decide +kernel
theorem dX12_unit_183 : decode cX12_unit 183 = .ok (.bipush 6, 2) := by decide +kernel
theorem dX12_unit_145 : decode cX12_unit 145 = .ok (.iload_n 2, 1) := by decide +kernel
theorem dX12_unit_146 : decode cX12_unit 146 = .ok (.ifCond .eq 7, 3) := by decide +kernel
theorem dX12_unit_153 : decode cX12_unit 153 = .ok (.iconst 1, 1) := by decide +kernel
theorem dX12_unit_149 : decode cX12_unit 149 = .ok (.iconst 0, 1) := by decide +kernel
theorem dX12_unit_150 : decode cX12_unit 150 = .ok (.goto 4, 3) := by decide +kernel
theorem dX12_unit_133 : decode cX12_unit 133 = .ok (.iconst 1, 1) := by decide +kernel
theorem dX12_unit_134 : decode cX12_unit 134 = .ok (.ireturn, 1) := by decide +kernel
theorem dX12_unit_70 : decode cX12_unit 70 = .ok (.iload_n 2, 1) := by decide +kernel
theorem dX12_unit_71 : decode cX12_unit 71 = .ok (.ifCond .ne 34, 3) := by decide +kernel
theorem dX12_unit_105 : decode cX12_unit 105 = .ok (.iload_n 2, 1) := by decide +kernel
theorem dX12_unit_106 : decode cX12_unit 106 = .ok (.ifCond .ne 7, 3) := by decide +kernel
theorem dX12_unit_113 : decode cX12_unit 113 = .ok (.aload_n 0, 1) := by decide +kernel
theorem dX12_unit_114 : decode cX12_unit 114 = .ok (.getfield 287, 3) := by decide +kernel
theorem dX12_unit_117 : decode cX12_unit 117 = .ok (.bipush 7, 2) := by decide +kernel
theorem dX12_unit_119 : decode cX12_unit 119 = .ok (.if_icmp .ne 7, 3) := by decide +kernel
theorem dX12_unit_122 : decode cX12_unit 122 = .ok (.aload_n 0, 1) := by decide +kernel
theorem dX12_unit_123 : decode cX12_unit 123 = .ok (.invokevirtual 215, 3) := by decide +kernel
theorem dX12_unit_74 : decode cX12_unit 74 = .ok (.iload 4, 2) := by decide +kernel
theorem dX12_unit_76 : decode cX12_unit 76 = .ok (.ifCond .ne 15, 3) := by decide +kernel
theorem dX12_unit_91 : decode cX12_unit 91 = .ok (.aload_n 0, 1) := by decide +kernel
theorem dX12_unit_92 : decode cX12_unit 92 = .ok (.getfield 27, 3) := by decide +kernel
theorem dX12_unit_95 : decode cX12_unit 95 = .ok (.aload_n 0, 1) := by decide +kernel
theorem dX12_unit_96 : decode cX12_unit 96 = .ok (.getfield 218, 3) := by decide +kernel
theorem dX12_unit_99 : decode cX12_unit 99 = .ok (.iaload, 1) := by decide +kernel
theorem dX12_unit_100 : decode cX12_unit 100 = .ok (.bipush 60, 2) := by decide +kernel
theorem dX12_unit_102 : decode cX12_unit 102 = .ok (.if_icmp .eq 20, 3) := by decide +kernel
theorem dX12_unit_109 : decode cX12_unit 109 = .ok (.iload_n 3, 1) := by decide +kernel
theorem dX12_unit_110 : decode cX12_unit 110 = .ok (.ifCond .eq 16, 3) := by decide +kernel
theorem dX12_unit_79 : decode cX12_unit 79 = .ok (.aload_n 0, 1) := by decide +kernel
theorem dX12_unit_80 : decode cX12_unit 80 = .ok (.getfield 180, 3) := by decide +kernel
theorem dX12_unit_83 : decode cX12_unit 83 = .ok (.iconst 4, 1) := by decide +kernel
theorem dX12_unit_84 : decode cX12_unit 84 = .ok (.if_icmp .eq 7, 3) := by decide +kernel
theorem dX12_unit_87 : decode cX12_unit 87 = .ok (.iload_n 3, 1) := by decide +kernel
theorem dX12_unit_88 : decode cX12_unit 88 = .ok (.ifCond .eq 34, 3) := by decide +kernel
theorem dX12_unit_37 : decode cX12_unit 37 = .ok (.iload_n 1, 1) := by decide +kernel
theorem dX12_unit_38 : decode cX12_unit 38 = .ok (.ifCond .eq 17, 3) := by decide +kernel
theorem dX12_unit_55 : decode cX12_unit 55 = .ok (.iconst 0, 1) := by decide +kernel
theorem dX12_unit_41 : decode cX12_unit 41 = .ok (.aload_n 0, 1) := by decide +kernel
theorem dX12_unit_42 : decode cX12_unit 42 = .ok (.ldc2_w 168, 3) := by decide +kernel
theorem dX12_unit_45 : decode cX12_unit 45 = .ok (.invokevirtual 243, 3) := by decide +kernel
theorem dX12_unit_48 : decode cX12_unit 48 = .ok (.ifCond .eq 7, 3) := by decide +kernel
theorem dX12_unit_51 : decode cX12_unit 51 = .ok (.iconst 1, 1) := by decide +kernel
theorem dX12_unit_52 : decode cX12_unit 52 = .ok (.goto 4, 3) := by decide +kernel
theorem dX12_unit_0 : decode cX12_unit 0 = .ok (.aload_n 0, 1) := by decide +kernel
theorem dX12_unit_1 : decode cX12_unit 1 = .ok (.getfield 68, 3) := by decide +kernel
theorem dX12_unit_4 : decode cX12_unit 4 = .ok (.aload_n 0, 1) := by decide +kernel
theorem dX12_unit_5 : decode cX12_unit 5 = .ok (.getfield 284, 3) := by decide +kernel
theorem dX12_unit_8 : decode cX12_unit 8 = .ok (.iconst 1, 1) := by decide +kernel
theorem dX12_unit_9 : decode cX12_unit 9 = .ok (.isub, 1) := by decide +kernel
theorem dX12_unit_10 : decode cX12_unit 10 = .ok (.iaload, 1) := by decide +kernel
theorem dX12_unit_11 : decode cX12_unit 11 = .ok (.iconst 3, 1) := by decide +kernel
theorem dX12_unit_12 : decode cX12_unit 12 = .ok (.if_icmp .le 19, 3) := by decide +kernel
theorem dX12_unit_31 : decode cX12_unit 31 = .ok (.iconst 1, 1) := by decide +kernel
theorem dX12_unit_32 : decode cX12_unit 32 = .ok (.goto 4, 3) := by decide +kernel
theorem dX12_unit_15 : decode cX12_unit 15 = .ok (.aload_n 0, 1) := by decide +kernel
theorem dX12_unit_16 : decode cX12_unit 16 = .ok (.getfield 68, 3) := by decide +kernel
theorem dX12_unit_19 : decode cX12_unit 19 = .ok (.aload_n 0, 1) := by decide +kernel
theorem dX12_unit_20 : decode cX12_unit 20 = .ok (.getfield 284, 3) := by decide +kernel
theorem dX12_unit_23 : decode cX12_unit 23 = .ok (.iconst 1, 1) := by decide +kernel
theorem dX12_unit_24 : decode cX12_unit 24 = .ok (.isub, 1) := by decide +kernel
theorem dX12_unit_25 : decode cX12_unit 25 = .ok (.iaload, 1) := by decide +kernel
theorem dX12_unit_26 : decode cX12_unit 26 = .ok (.bipush 6, 2) := by decide +kernel
theorem dX12_unit_28 : decode cX12_unit 28 = .ok (.if_icmp .lt 7, 3) := by decide +kernel
theorem dX12_unit_35 : decode cX12_unit 35 = .ok (.iconst 0, 1) := by decide +kernel
theorem dX12_behindUnit_0 : decode cX12_behindUnit 0 = .ok (.aload_n 0, 1) := by decide +kernel
theorem dX12_behindUnit_1 : decode cX12_behindUnit 1 = .ok (.invokevirtual 305, 3) := by decide +kernel
theorem dX12_behindUnit_4 : decode cX12_behindUnit 4 = .ok (.istore_n 1, 1) := by decide +kernel
theorem dX12_behindUnit_23 : decode cX12_behindUnit 23 = .ok (.aload_n 0, 1) := by decide +kernel
theorem dX12_behindUnit_24 : decode cX12_behindUnit 24 = .ok (.getfield 68, 3) := by decide +kernel
theorem dX12_behindUnit_27 : decode cX12_behindUnit 27 = .ok (.aload_n 0, 1) := by decide +kernel
theorem dX12_behindUnit_28 : decode cX12_behindUnit 28 = .ok (.getfield 284, 3) := by decide +kernel
theorem dX12_behindUnit_31 : decode cX12_behindUnit 31 = .ok (.iconst 1, 1) := by decide +kernel
theorem dX12_behindUnit_32 : decode cX12_behindUnit 32 = .ok (.isub, 1) := by decide +kernel
theorem dX12_behindUnit_33 : decode cX12_behindUnit 33 = .ok (.iaload, 1) := by decide +kernel
theorem dX12_behindUnit_34 : decode cX12_behindUnit 34 = .ok (.iconst 5, 1) := by decide +kernel
theorem dX12_behindUnit_35 : decode cX12_behindUnit 35 = .ok (.if_icmp .gt 68, 3) := by decide +kernel
theorem dX12_behindUnit_103 : decode cX12_behindUnit 103 = .ok (.iload_n 1, 1) := by decide +kernel
theorem dX12_behindUnit_104 : decode cX12_behindUnit 104 = .ok (.ifCond .le 42, 3) := by decide +kernel
theorem dX12_behindUnit_146 : decode cX12_behindUnit 146 = .ok (.aload_n 0, 1) := by decide +kernel
theorem dX12_behindUnit_147 : decode cX12_behindUnit 147 = .ok (.dup, 1) := by decide +kernel
theorem dX12_behindUnit_148 : decode cX12_behindUnit 148 = .ok (.getfield 284, 3) := by decide +kernel
theorem dX12_behindUnit_151 : decode cX12_behindUnit 151 = .ok (.iconst 1, 1) := by decide +kernel
theorem dX12_behindUnit_152 : decode cX12_behindUnit 152 = .ok (.isub, 1) := by decide +kernel
theorem dX12_behindUnit_153 : decode cX12_behindUnit 153 = .ok (.putfield 284, 3) := by decide +kernel
theorem dX12_behindUnit_156 : decode cX12_behindUnit 156 = .ok (.aload_n 0, 1) := by decide +kernel
theorem dX12_behindUnit_157 : decode cX12_behindUnit 157 = .ok (.getfield 68, 3) := by decide +kernel
theorem dX12_behindUnit_160 : decode cX12_behindUnit 160 = .ok (.aload_n 0, 1) := by decide +kernel
theorem dX12_behindUnit_161 : decode cX12_behindUnit 161 = .ok (.getfield 284, 3) := by decide +kernel
theorem dX12_behindUnit_164 : decode cX12_behindUnit 164 = .ok (.iaload, 1) := by decide +kernel
theorem dX12_behindUnit_165 : decode cX12_behindUnit 165 = .ok (.bipush 6, 2) := by decide +kernel
theorem dX12_behindUnit_167 : decode cX12_behindUnit 167 = .ok (.if_icmp .ne 23, 3) := by decide +kernel
theorem dX12_behindUnit_190 : decode cX12_behindUnit 190 = .ok (.iconst 0, 1) := by decide +kernel
theorem dX12_behindUnit_191 : decode cX12_behindUnit 191 = .ok (.ireturn, 1) := by decide +kernel
theorem dX12_behindUnit_170 : decode cX12_behindUnit 170 = .ok (.aload_n 0, 1) := by decide +kernel
theorem dX12_behindUnit_171 : decode cX12_behindUnit 171 = .ok (.dup, 1) := by decide +kernel
theorem dX12_behindUnit_172 : decode cX12_behindUnit 172 = .ok (.getfield 287, 3) := by decide +kernel
theorem dX12_behindUnit_175 : decode cX12_behindUnit 175 = .ok (.iconst 1, 1) := by decide +kernel
theorem dX12_behindUnit_176 : decode cX12_behindUnit 176 = .ok (.isub, 1) := by decide +kernel
theorem dX12_behindUnit_177 : decode cX12_behindUnit 177 = .ok (.putfield 287, 3) := by decide +kernel
theorem dX12_behindUnit_180 : decode cX12_behindUnit 180 = .ok (.aload_n 0, 1) := by decide +kernel
theorem dX12_behindUnit_181 : decode cX12_behindUnit 181 = .ok (.aload_n 0, 1) := by decide +kernel
theorem dX12_behindUnit_182 : decode cX12_behindUnit 182 = .ok (.bipush 41, 2) := by decide +kernel
theorem dX12_behindUnit_184 : decode cX12_behindUnit 184 = .ok (.invokevirtual 258, 3) := by decide +kernel
theorem dX12_behindUnit_187 : decode cX12_behindUnit 187 = .ok (.invokevirtual 261, 3) := by decide +kernel
theorem dX12_behindUnit_107 : decode cX12_behindUnit 107 = .ok (.aload_n 0, 1) := by decide +kernel
theorem dX12_behindUnit_108 : decode cX12_behindUnit 108 = .ok (.iload_n 1, 1) := by decide +kernel
theorem dX12_behindUnit_109 : decode cX12_behindUnit 109 = .ok (.iload_n 1, 1) := by decide +kernel
theorem dX12_behindUnit_110 : decode cX12_behindUnit 110 = .ok (.iconst 2, 1) := by decide +kernel
theorem dX12_behindUnit_111 : decode cX12_behindUnit 111 = .ok (.if_icmp .ne 8, 3) := by decide +kernel
theorem dX12_behindUnit_119 : decode cX12_behindUnit 119 = .ok (.iload_n 1, 1) := by decide +kernel
theorem dX12_behindUnit_120 : decode cX12_behindUnit 120 = .ok (.iconst 1, 1) := by decide +kernel
theorem dX12_behindUnit_121 : decode cX12_behindUnit 121 = .ok (.if_icmp .ne 8, 3) := by decide +kernel
theorem dX12_behindUnit_129 : decode cX12_behindUnit 129 = .ok (.aload_n 0, 1) := by decide +kernel
theorem dX12_behindUnit_130 : decode cX12_behindUnit 130 = .ok (.aload_n 0, 1) := by decide +kernel
theorem dX12_behindUnit_131 : decode cX12_behindUnit 131 = .ok (.getfield 173, 3) := by decide +kernel
theorem dX12_behindUnit_134 : decode cX12_behindUnit 134 = .ok (.invokevirtual 176, 3) := by decide +kernel
theorem dX12_behindUnit_137 : decode cX12_behindUnit 137 = .ok (.invokevirtual 290, 3) := by decide +kernel
theorem dX12_behindUnit_140 : decode cX12_behindUnit 140 = .ok (.aload_n 0, 1) := by decide +kernel
theorem dX12_behindUnit_141 : decode cX12_behindUnit 141 = .ok (.invokevirtual 212, 3) := by decide +kernel
theorem dX12_behindUnit_144 : decode cX12_behindUnit 144 = .ok (.iconst 1, 1) := by decide +kernel
theorem dX12_behindUnit_145 : decode cX12_behindUnit 145 = .ok (.ireturn, 1) := by decide +kernel
theorem dX12_behindUnit_124 : decode cX12_behindUnit 124 = .ok (.bipush 124, 2) := by decide +kernel
theorem dX12_behindUnit_126 : decode cX12_behindUnit 126 = .ok (.goto 11, 3) := by decide +kernel
theorem dX12_behindUnit_114 : decode cX12_behindUnit 114 = .ok (.bipush 38, 2) := by decide +kernel
theorem dX12_behindUnit_116 : decode cX12_behindUnit 116 = .ok (.goto 21, 3) := by decide +kernel
theorem dX12_behindUnit_38 : decode cX12_behindUnit 38 = .ok (.aload_n 0, 1) := by decide +kernel
theorem dX12_behindUnit_39 : decode cX12_behindUnit 39 = .ok (.getfield 68, 3) := by decide +kernel
theorem dX12_behindUnit_42 : decode cX12_behindUnit 42 = .ok (.aload_n 0, 1) := by decide +kernel
theorem dX12_behindUnit_43 : decode cX12_behindUnit 43 = .ok (.getfield 284, 3) := by decide +kernel
theorem dX12_behindUnit_46 : decode cX12_behindUnit 46 = .ok (.iconst 1, 1) := by decide +kernel
theorem dX12_behindUnit_47 : decode cX12_behindUnit 47 = .ok (.isub, 1) := by decide +kernel
theorem dX12_behindUnit_48 : decode cX12_behindUnit 48 = .ok (.iaload, 1) := by decide +kernel
theorem dX12_behindUnit_49 : decode cX12_behindUnit 49 = .ok (.iload_n 1, 1) := by decide +kernel
theorem dX12_behindUnit_50 : decode cX12_behindUnit 50 = .ok (.if_icmp .lt 53, 3) := by decide +kernel
theorem dX12_behindUnit_53 : decode cX12_behindUnit 53 = .ok (.aload_n 0, 1) := by decide +kernel
theorem dX12_behindUnit_54 : decode cX12_behindUnit 54 = .ok (.dup, 1) := by decide +kernel
theorem dX12_behindUnit_55 : decode cX12_behindUnit 55 = .ok (.getfield 284, 3) := by decide +kernel
theorem dX12_behindUnit_58 : decode cX12_behindUnit 58 = .ok (.iconst 1, 1) := by decide +kernel
theorem dX12_behindUnit_59 : decode cX12_behindUnit 59 = .ok (.isub, 1) := by decide +kernel
theorem dX12_behindUnit_60 : decode cX12_behindUnit 60 = .ok (.putfield 284, 3) := by decide +kernel
theorem dX12_behindUnit_63 : decode cX12_behindUnit 63 = .ok (.aload_n 0, 1) := by decide +kernel
theorem dX12_behindUnit_64 : decode cX12_behindUnit 64 = .ok (.getfield 68, 3) := by decide +kernel
theorem dX12_behindUnit_67 : decode cX12_behindUnit 67 = .ok (.aload_n 0, 1) := by decide +kernel
theorem dX12_behindUnit_68 : decode cX12_behindUnit 68 = .ok (.getfield 284, 3) := by decide +kernel
theorem dX12_behindUnit_71 : decode cX12_behindUnit 71 = .ok (.iaload, 1) := by decide +kernel
theorem dX12_behindUnit_72 : decode cX12_behindUnit 72 = .ok (.iconst 3, 1) := by decide +kernel
theorem dX12_behindUnit_73 : decode cX12_behindUnit 73 = .ok (.if_icmp .ne 13, 3) := by decide +kernel
theorem dX12_behindUnit_86 : decode cX12_behindUnit 86 = .ok (.aload_n 0, 1) := by decide +kernel
theorem dX12_behindUnit_87 : decode cX12_behindUnit 87 = .ok (.aload_n 0, 1) := by decide +kernel
theorem dX12_behindUnit_88 : decode cX12_behindUnit 88 = .ok (.getfield 71, 3) := by decide +kernel
theorem dX12_behindUnit_91 : decode cX12_behindUnit 91 = .ok (.aload_n 0, 1) := by decide +kernel
theorem dX12_behindUnit_92 : decode cX12_behindUnit 92 = .ok (.getfield 284, 3) := by decide +kernel
theorem dX12_behindUnit_95 : decode cX12_behindUnit 95 = .ok (.iaload, 1) := by decide +kernel
theorem dX12_behindUnit_96 : decode cX12_behindUnit 96 = .ok (.iconst 0, 1) := by decide +kernel
theorem dX12_behindUnit_97 : decode cX12_behindUnit 97 = .ok (.invokevirtual 302, 3) := by decide +kernel
theorem dX12_behindUnit_100 : decode cX12_behindUnit 100 = .ok (.goto (-77), 3) := by decide +kernel
theorem dX12_behindUnit_76 : decode cX12_behindUnit 76 = .ok (.aload_n 0, 1) := by decide +kernel
theorem dX12_behindUnit_77 : decode cX12_behindUnit 77 = .ok (.dup, 1) := by decide +kernel
theorem dX12_behindUnit_78 : decode cX12_behindUnit 78 = .ok (.getfield 287, 3) := by decide +kernel
theorem dX12_behindUnit_81 : decode cX12_behindUnit 81 = .ok (.iconst 1, 1) := by decide +kernel
theorem dX12_behindUnit_82 : decode cX12_behindUnit 82 = .ok (.isub, 1) := by decide +kernel
theorem dX12_behindUnit_83 : decode cX12_behindUnit 83 = .ok (.putfield 287, 3) := by decide +kernel
theorem dX12_behindUnit_5 : decode cX12_behindUnit 5 = .ok (.iload_n 1, 1) := by decide +kernel
theorem dX12_behindUnit_6 : decode cX12_behindUnit 6 = .ok (.iconst 4, 1) := by decide +kernel
theorem dX12_behindUnit_7 : decode cX12_behindUnit 7 = .ok (.if_icmp .ne 16, 3) := by decide +kernel
theorem dX12_behindUnit_10 : decode cX12_behindUnit 10 = .ok (.aload_n 0, 1) := by decide +kernel
theorem dX12_behindUnit_11 : decode cX12_behindUnit 11 = .ok (.invokevirtual 308, 3) := by decide +kernel
theorem dX12_behindUnit_14 : decode cX12_behindUnit 14 = .ok (.ifCond .eq 9, 3) := by decide +kernel
theorem dX12_behindUnit_17 : decode cX12_behindUnit 17 = .ok (.aload_n 0, 1) := by decide +kernel
theorem dX12_behindUnit_18 : decode cX12_behindUnit 18 = .ok (.invokevirtual 215, 3) := by decide +kernel
theorem dX12_behindUnit_21 : decode cX12_behindUnit 21 = .ok (.iconst 1, 1) := by decide +kernel
theorem dX12_behindUnit_22 : decode cX12_behindUnit 22 = .ok (.ireturn, 1) := by decide +kernel
theorem dX12_e_0 : decode cX12_e 0 = .ok (.aload_n 0, 1) := by decide +kernel
theorem dX12_e_1 : decode cX12_e 1 = .ok (.iconst 0, 1) := by decide +kernel
theorem dX12_e_2 : decode cX12_e 2 = .ok (.putfield 284, 3) := by decide +kernel
theorem dX12_e_5 : decode cX12_e 5 = .ok (.aload_n 0, 1) := by decide +kernel
theorem dX12_e_6 : decode cX12_e 6 = .ok (.iconst 0, 1) := by decide +kernel
theorem dX12_e_7 : decode cX12_e 7 = .ok (.putfield 287, 3) := by decide +kernel
theorem dX12_e_10 : decode cX12_e 10 = .ok (.aload_n 0, 1) := by decide +kernel
theorem dX12_e_11 : decode cX12_e 11 = .ok (.bipush 7, 2) := by decide +kernel
theorem dX12_e_13 : decode cX12_e 13 = .ok (.iconst 0, 1) := by decide +kernel
theorem dX12_e_14 : decode cX12_e 14 = .ok (.invokevirtual 290, 3) := by decide +kernel
theorem dX12_e_17 : decode cX12_e 17 = .ok (.iconst 1, 1) := by decide +kernel
theorem dX12_e_18 : decode cX12_e 18 = .ok (.istore_n 1, 1) := by decide +kernel
theorem dX12_e_19 : decode cX12_e 19 = .ok (.aload_n 0, 1) := by decide +kernel
theorem dX12_e_20 : decode cX12_e 20 = .ok (.invokevirtual 208, 3) := by decide +kernel
theorem dX12_e_23 : decode cX12_e 23 = .ok (.ifCond .eq 29, 3) := by decide +kernel
theorem dX12_e_52 : decode cX12_e 52 = .ok (.return_, 1) := by decide +kernel
theorem dX12_e_26 : decode cX12_e 26 = .ok (.aload_n 0, 1) := by decide +kernel
theorem dX12_e_27 : decode cX12_e 27 = .ok (.getfield 284, 3) := by decide +kernel
theorem dX12_e_30 : decode cX12_e 30 = .ok (.ifCond .le 22, 3) := by decide +kernel
theorem dX12_e_33 : decode cX12_e 33 = .ok (.iload_n 1, 1) := by decide +kernel
theorem dX12_e_34 : decode cX12_e 34 = .ok (.ifCond .eq 10, 3) := by decide +kernel
theorem dX12_e_44 : decode cX12_e 44 = .ok (.aload_n 0, 1) := by decide +kernel
theorem dX12_e_45 : decode cX12_e 45 = .ok (.invokevirtual 296, 3) := by decide +kernel
theorem dX12_e_48 : decode cX12_e 48 = .ok (.istore_n 1, 1) := by decide +kernel
theorem dX12_e_49 : decode cX12_e 49 = .ok (.goto (-30), 3) := by decide +kernel
theorem dX12_e_37 : decode cX12_e 37 = .ok (.aload_n 0, 1) := by decide +kernel
theorem dX12_e_38 : decode cX12_e 38 = .ok (.invokevirtual 293, 3) := by decide +kernel
theorem dX12_e_41 : decode cX12_e 41 = .ok (.goto 7, 3) := by decide +kernel
set_option maxHeartbeats 4000000 in
set_option maxRecDepth 100000 in
theorem m_unit (l : Launch) (G : va_G) (cy : Nat → ClassId) (sz : Nat) (mo : Nat) (h : Nat → Nat) (T : Int) (v : Nat → Int32) (nm : Int64) (f : Nat → Nat → Int32) (g : Nat → Nat → Int64)  (Fz : Int) (hv : MIv T v) (hf : MIf f) (hR : RI v f) (hL : WL v f) (he : (v 7).toInt ≤ (v 3).toInt) (hE : EI 1 (v 30).toInt Fz (v 31).toInt (v 33).toInt (v 32).toInt (f 13 (Int32.toNatClampNeg (v 30))).toInt (f 26) (f 27) (f 24) (f 25)) (hfk : (v 4).toInt = 0) (hp1 : 1 ≤ (v 33).toInt) (hrb : (v 30).toInt + (v 29).toInt = 1) : Met l yX12_unit (.code yX12_unit cX12_unit 6 (some .boolean) :: TBg) ({ frames := 3, cells := 0, slots := 0, locals := 192 }) (va_Pc [.ref mo] (En G cy (WMs cy mo h v nm f g) sz)) (va_Qi (fun (r : Int32) (u : (Nat → Int32) × Int64 × (Nat → Nat → Int32) × (Nat → Nat → Int64)) => MIv T u.1 ∧ MIf u.2.2.1 ∧ RI u.1 u.2.2.1 ∧ WL u.1 u.2.2.1 ∧ FV [4, 5, 6, 7, 8, 9, 31, 32, 33] v u.1 ∧ FF [13, 24, 25, 26, 27] f u.2.2.1 ∧ ((r.toInt = 0 ∨ r.toInt = 1) ∧ ((u.1 7).toInt ≤ (v 3).toInt)) ∧ (0 ≤ mz (v 3).toInt (u.1 7).toInt (u.1 8).toInt ∧ mz (v 3).toInt (u.1 7).toInt (u.1 8).toInt ≤ mz (v 3).toInt (v 7).toInt (v 8).toInt ∧ ((u.1 4).toInt ≠ 0 ∨ mz (v 3).toInt (u.1 7).toInt (u.1 8).toInt < mz (v 3).toInt (v 7).toInt (v 8).toInt)) ∧ ((u.1 4).toInt = 0 → EI r.toInt (v 30).toInt Fz (u.1 31).toInt (u.1 33).toInt (u.1 32).toInt (u.2.2.1 13 (Int32.toNatClampNeg (v 30))).toInt (u.2.2.1 26) (u.2.2.1 27) (u.2.2.1 24) (u.2.2.1 25)) ∧ (OUT Fz (600 * (v 30).toInt + 600) (f 24) (f 25) (u.2.2.1 24) (u.2.2.1 25))) (fun u t => Ex G (va_A (WMs cy mo h v nm f g) sz) (WMs cy mo h u.1 u.2.1 u.2.2.1 u.2.2.2) t) (va_A (WMs cy mo h v nm f g) sz)) 0 0 (va_A (WMs cy mo h v nm f g) sz) := by
  refine Met.ofW (cc := cX12_unit) (maxL := 6) (ret := (some .boolean)) (by decide) rfl ?_
  intro p e s m args below meth c s₁ B hml hv9
  obtain ⟨rfl, hsz, hP, hK, hD0, hN⟩ := hv9
  have hx := B.exec
  have hb := B.bytes
  have hr := B.returns
  have hts := atoms_spec (ws := .code yX12_unit cX12_unit 6 (some .boolean) :: TBg) B.pre
  have ht : ∀ w ∈ TBg, w.before _ s = true := fun w h => hts w (List.mem_cons_of_mem _ h)
  have hown : s.vm.findClass RX12 = some m.cls := findClass_of_methodNamed B.named
  have hlocks := B.notSynchronized
  subst hsz
  have hD := hD0.self (sz := s.heap.size)
  generalize hAe : va_A (WMs cy mo h v nm f g) s.heap.size = A at hD ⊢
  have hA : ∀ q : Nat, s.heap.size ≤ q → A q := fun q h => by rw [← hAe]; exact Or.inr h
  have hS : va_S A s.heap s.heap [] := va_S.rf
  have hl := lv_entry ([.ref mo]) (n := 6) (Nat.le_of_ble_eq_true rfl)
  rw [lg_entry_eq]
  generalize (lg_sl ([.ref mo]) ++ List.replicate (6 - (lg_sl ([.ref mo])).length) Slot.unset).toArray = ls at hl ⊢
  have hl : lv_has ls 6 [(0, .ref mo)] := hl
  have z0 : (0 : Int32).toInt = 0 := by decide
  have z1 : (1 : Int32).toInt = 1 := by decide
  have z2 : (2 : Int32).toInt = 2 := by decide
  have z3 : (3 : Int32).toInt = 3 := by decide
  have z4 : (4 : Int32).toInt = 4 := by decide
  have z5 : (5 : Int32).toInt = 5 := by decide
  have z6 : (6 : Int32).toInt = 6 := by decide
  have z7 : (7 : Int32).toInt = 7 := by decide
  have z8 : (40 : Int32).toInt = 40 := by decide
  have z9 : (60 : Int32).toInt = 60 := by decide
  have z10 : (98 : Int32).toInt = 98 := by decide
  have z11 : (101 : Int32).toInt = 101 := by decide
  have z12 : (105 : Int32).toInt = 105 := by decide
  have z13 : (107 : Int32).toInt = 107 := by decide
  have z14 : (126 : Int32).toInt = 126 := by decide
  have hf_0 := hf
  have hV_0 : FV [4, 5, 6, 7, 8, 9, 31, 32, 33] v v := FV.rf
  have hF_0 : FF [13, 24, 25, 26, 27] f f := FF.rf
  refine W.widen (k := 0) (n := 0) (Nat.le_of_ble_eq_true rfl) (Nat.le_of_ble_eq_true rfl) ?_
  have jn_1 : ∀ (y0_1 : Int32) (H : Heap) (locs : List Loc) (ls : Array Slot), (0 ≤ y0_1.toInt ∧ y0_1.toInt ≤ 1) → va_P G vwCl (WMs cy mo h v nm f g) H → va_D A (WMs cy mo h v nm f g) → va_S A s.heap H locs → lv_has ls 6 [(0, .ref mo)] → W p l e (headSpec (.code yX12_unit cX12_unit 6 (some .boolean) :: TBg) ({ frames := 3, cells := 0, slots := 0, locals := 192 })).room s m ([.ref mo] : List Value).toArray below meth c H locs 0 0 (MQ below (va_Qi (fun (r : Int32) (u : (Nat → Int32) × Int64 × (Nat → Nat → Int32) × (Nat → Nat → Int64)) => MIv T u.1 ∧ MIf u.2.2.1 ∧ RI u.1 u.2.2.1 ∧ WL u.1 u.2.2.1 ∧ FV [4, 5, 6, 7, 8, 9, 31, 32, 33] v u.1 ∧ FF [13, 24, 25, 26, 27] f u.2.2.1 ∧ ((r.toInt = 0 ∨ r.toInt = 1) ∧ ((u.1 7).toInt ≤ (v 3).toInt)) ∧ (0 ≤ mz (v 3).toInt (u.1 7).toInt (u.1 8).toInt ∧ mz (v 3).toInt (u.1 7).toInt (u.1 8).toInt ≤ mz (v 3).toInt (v 7).toInt (v 8).toInt ∧ ((u.1 4).toInt ≠ 0 ∨ mz (v 3).toInt (u.1 7).toInt (u.1 8).toInt < mz (v 3).toInt (v 7).toInt (v 8).toInt)) ∧ ((u.1 4).toInt = 0 → EI r.toInt (v 30).toInt Fz (u.1 31).toInt (u.1 33).toInt (u.1 32).toInt (u.2.2.1 13 (Int32.toNatClampNeg (v 30))).toInt (u.2.2.1 26) (u.2.2.1 27) (u.2.2.1 24) (u.2.2.1 25)) ∧ (OUT Fz (600 * (v 30).toInt + 600) (f 24) (f 25) (u.2.2.1 24) (u.2.2.1 25))) (fun u t => Ex G A (WMs cy mo h u.1 u.2.1 u.2.2.1 u.2.2.2) t) A) ([.ref mo] : List Value).toArray s 0 0 A) (F0 m 36 ls [.int y0_1]) := by
    intro y0_1 H locs ls qf1_0 hP hD hS hl
    refine lv_istore_n (lv' := [(1, .int y0_1), (0, .ref mo)]) hx hb dX12_unit_36 rfl hl (by decide) rfl (fun ls hl => ?_)
    refine W.widen (k := 0) (n := 0) (Nat.le_of_ble_eq_true rfl) (Nat.le_of_ble_eq_true rfl) ?_
    have jn_2 : ∀ (y0_2 : Int32) (H : Heap) (locs : List Loc) (ls : Array Slot), (0 ≤ y0_2.toInt ∧ y0_2.toInt ≤ 1) → (y0_2.toInt = 0 ∨ (v 8).toInt = 3) → va_P G vwCl (WMs cy mo h v nm f g) H → va_D A (WMs cy mo h v nm f g) → va_S A s.heap H locs → lv_has ls 6 [(1, .int y0_1), (0, .ref mo)] → W p l e (headSpec (.code yX12_unit cX12_unit 6 (some .boolean) :: TBg) ({ frames := 3, cells := 0, slots := 0, locals := 192 })).room s m ([.ref mo] : List Value).toArray below meth c H locs 0 0 (MQ below (va_Qi (fun (r : Int32) (u : (Nat → Int32) × Int64 × (Nat → Nat → Int32) × (Nat → Nat → Int64)) => MIv T u.1 ∧ MIf u.2.2.1 ∧ RI u.1 u.2.2.1 ∧ WL u.1 u.2.2.1 ∧ FV [4, 5, 6, 7, 8, 9, 31, 32, 33] v u.1 ∧ FF [13, 24, 25, 26, 27] f u.2.2.1 ∧ ((r.toInt = 0 ∨ r.toInt = 1) ∧ ((u.1 7).toInt ≤ (v 3).toInt)) ∧ (0 ≤ mz (v 3).toInt (u.1 7).toInt (u.1 8).toInt ∧ mz (v 3).toInt (u.1 7).toInt (u.1 8).toInt ≤ mz (v 3).toInt (v 7).toInt (v 8).toInt ∧ ((u.1 4).toInt ≠ 0 ∨ mz (v 3).toInt (u.1 7).toInt (u.1 8).toInt < mz (v 3).toInt (v 7).toInt (v 8).toInt)) ∧ ((u.1 4).toInt = 0 → EI r.toInt (v 30).toInt Fz (u.1 31).toInt (u.1 33).toInt (u.1 32).toInt (u.2.2.1 13 (Int32.toNatClampNeg (v 30))).toInt (u.2.2.1 26) (u.2.2.1 27) (u.2.2.1 24) (u.2.2.1 25)) ∧ (OUT Fz (600 * (v 30).toInt + 600) (f 24) (f 25) (u.2.2.1 24) (u.2.2.1 25))) (fun u t => Ex G A (WMs cy mo h u.1 u.2.1 u.2.2.1 u.2.2.2) t) A) ([.ref mo] : List Value).toArray s 0 0 A) (F0 m 56 ls [.int y0_2]) := by
      intro y0_2 H locs ls qf2_0 qf2_1 hP hD hS hl
      refine lv_istore_n (lv' := [(2, .int y0_2), (1, .int y0_1), (0, .ref mo)]) hx hb dX12_unit_56 rfl hl (by decide) rfl (fun ls hl => ?_)
      refine lv_aload_n hx hb dX12_unit_57 rfl (lv_at hl 2 rfl) ?_
      refine lv_bipush (v := 40) hx hb dX12_unit_58 (by decide) ?_
      have hFc := fr_new hS hA
      refine va_calli (va_runV (As := [.int 40]) (rest := []) ⟨hx, hb, hml, hown, ht⟩ (m_stands l G cy _ mo h T v nm f g (40)  hv hf hR hL) (cwV 1 ht (gv k_244 k_245 k_246 k_61 k_243) rfl rfl rfl (by decide +kernel) ⟨Nat.le_of_ble_eq_true rfl, Nat.le_of_ble_eq_true rfl⟩) ⟨En.blind, va_recv hK hP (ci := 12) (q0 := 0) rfl rfl, fun U hU hW => ⟨rfl, En.of hU hW hP hK hD hN⟩⟩ rfl rfl hl.1 rfl (lv_room (Nat.le_of_ble_eq_true rfl)) dX12_unit_60 ⟨Nat.le_of_ble_eq_true rfl, Nat.le_of_ble_eq_true rfl⟩) hS (fun q _ h => hFc q h) hFc (fun r_u_3 u_3 t9 H locs ht9 hvm hw hB hz1 hk1 hS => ?_)
      have hP := fr_keep hP hk1
      have wu_3 := hw
      clear hFc hk1 hz1 hB hw
      refine lv_istore_n (lv' := [(3, .int r_u_3), (2, .int y0_2), (1, .int y0_1), (0, .ref mo)]) hx hb dX12_unit_63 rfl hl (by decide) rfl (fun ls hl => ?_)
      refine lv_aload_n hx hb dX12_unit_64 rfl (lv_at hl 3 rfl) ?_
      have hFc := fr_new hS hA
      refine va_calli (va_runV (As := []) (rest := []) ⟨hx, hb, hml, hown, ht⟩ (m_wordHere l G cy _ mo h T v nm f g   hv hf hR hL) (cwV 0 ht (gv k_248 k_249 k_250 k_61 k_247) rfl rfl rfl (by decide +kernel) ⟨Nat.le_of_ble_eq_true rfl, Nat.le_of_ble_eq_true rfl⟩) ⟨En.blind, va_recv hK hP (ci := 12) (q0 := 0) rfl rfl, fun U hU hW => ⟨rfl, En.of hU hW hP hK hD hN⟩⟩ rfl rfl hl.1 rfl (lv_room (Nat.le_of_ble_eq_true rfl)) dX12_unit_65 ⟨Nat.le_of_ble_eq_true rfl, Nat.le_of_ble_eq_true rfl⟩) hS (fun q _ h => hFc q h) hFc (fun r_u_4 u_4 t9 H locs ht9 hvm hw hB hz1 hk1 hS => ?_)
      have hP := fr_keep hP hk1
      have wu_4 := hw
      clear hFc hk1 hz1 hB hw
      refine lv_istore (lv' := [(4, .int r_u_4), (3, .int r_u_3), (2, .int y0_2), (1, .int y0_1), (0, .ref mo)]) hx hb dX12_unit_68 hl (by decide) rfl (fun ls hl => ?_)
      refine W.widen (k := 0) (n := 0) (Nat.le_of_ble_eq_true rfl) (Nat.le_of_ble_eq_true rfl) ?_
      have jn_5 : ∀ (v5 : Nat → Int32) (nm5 : Int64) (H : Heap) (locs : List Loc) (ls : Array Slot), MIv T v5 → FV [4, 5] v v5 → ((v5 4).toInt ≠ 0 ∨ ((v 8).toInt ≠ 0 ∧ (y0_2.toInt = 1 ∨ (f 13 (Int32.toNatClampNeg (v 30))).toInt ≠ 60) ∧ ((y0_2.toInt = 0 ∧ r_u_3.toInt = 0) ∨ (v 32).toInt ≠ 7))) → va_P G vwCl (WMs cy mo h v5 nm5 f g) H → va_D A (WMs cy mo h v5 nm5 f g) → va_S A s.heap H locs → lv_has ls 6 [(4, .int r_u_4), (3, .int r_u_3), (2, .int y0_2), (1, .int y0_1), (0, .ref mo)] → W p l e (headSpec (.code yX12_unit cX12_unit 6 (some .boolean) :: TBg) ({ frames := 3, cells := 0, slots := 0, locals := 192 })).room s m ([.ref mo] : List Value).toArray below meth c H locs 0 0 (MQ below (va_Qi (fun (r : Int32) (u : (Nat → Int32) × Int64 × (Nat → Nat → Int32) × (Nat → Nat → Int64)) => MIv T u.1 ∧ MIf u.2.2.1 ∧ RI u.1 u.2.2.1 ∧ WL u.1 u.2.2.1 ∧ FV [4, 5, 6, 7, 8, 9, 31, 32, 33] v u.1 ∧ FF [13, 24, 25, 26, 27] f u.2.2.1 ∧ ((r.toInt = 0 ∨ r.toInt = 1) ∧ ((u.1 7).toInt ≤ (v 3).toInt)) ∧ (0 ≤ mz (v 3).toInt (u.1 7).toInt (u.1 8).toInt ∧ mz (v 3).toInt (u.1 7).toInt (u.1 8).toInt ≤ mz (v 3).toInt (v 7).toInt (v 8).toInt ∧ ((u.1 4).toInt ≠ 0 ∨ mz (v 3).toInt (u.1 7).toInt (u.1 8).toInt < mz (v 3).toInt (v 7).toInt (v 8).toInt)) ∧ ((u.1 4).toInt = 0 → EI r.toInt (v 30).toInt Fz (u.1 31).toInt (u.1 33).toInt (u.1 32).toInt (u.2.2.1 13 (Int32.toNatClampNeg (v 30))).toInt (u.2.2.1 26) (u.2.2.1 27) (u.2.2.1 24) (u.2.2.1 25)) ∧ (OUT Fz (600 * (v 30).toInt + 600) (f 24) (f 25) (u.2.2.1 24) (u.2.2.1 25))) (fun u t => Ex G A (WMs cy mo h u.1 u.2.1 u.2.2.1 u.2.2.2) t) A) ([.ref mo] : List Value).toArray s 0 0 A) (F0 m 126 ls []) := by
        intro v5 nm5 H locs ls hv hV_5 qf5_0 hP hD hS hl
        have hR : RI v5 f := RI.fv hR hV_5 (by decide)
        have hL : WL v5 f := WL.fv hL hV_5 (by decide) (by decide)
        have hV_0 := FV.tr hV_0 hV_5 (by decide)
        refine lv_aload_n hx hb dX12_unit_126 rfl (lv_at hl 4 rfl) ?_
        have hFc := fr_new hS hA
        refine va_calli (va_runV (As := []) (rest := []) ⟨hx, hb, hml, hown, ht⟩ (m_isGood l G cy _ mo h T v5 nm5 f g   hv hf hR hL) (cwV 0 ht (gv k_224 k_225 k_226 k_61 k_223) rfl rfl rfl (by decide +kernel) ⟨Nat.le_of_ble_eq_true rfl, Nat.le_of_ble_eq_true rfl⟩) ⟨En.blind, va_recv hK hP (ci := 12) (q0 := 0) rfl rfl, fun U hU hW => ⟨rfl, En.of hU hW hP hK hD hN⟩⟩ rfl rfl hl.1 rfl (lv_room (Nat.le_of_ble_eq_true rfl)) dX12_unit_127 ⟨Nat.le_of_ble_eq_true rfl, Nat.le_of_ble_eq_true rfl⟩) hS (fun q _ h => hFc q h) hFc (fun r_u_6 u_6 t9 H locs ht9 hvm hw hB hz1 hk1 hS => ?_)
        have hP := fr_keep hP hk1
        have wu_6 := hw
        clear hFc hk1 hz1 hB hw
        have wu_6 : (r_u_6.toInt = 0 ∨ r_u_6.toInt = 1) ∧ ((r_u_6.toInt = 1 ∧ (v5 4).toInt = 0) ∨ (r_u_6.toInt = 0 ∧ (v5 4).toInt ≠ 0)) := wu_6
        refine lv_if_ne (tgt := 135) hx hb dX12_unit_130 (by decide) (fun c_7 => ?_) (fun c_7 => ?_)
        · have q_8 : ¬ r_u_6.toInt = (0 : Int32).toInt := by have := (not_congr (ow_eq _ _)).mp c_7; omega
          refine lv_aload_n hx hb dX12_unit_135 rfl (lv_at hl 4 rfl) ?_
          refine mg_13 hx hb ht hown hK hP dX12_unit_136 ?_
          refine lv_aload_n hx hb dX12_unit_139 rfl (lv_at hl 4 rfl) ?_
          refine mg_30 hx hb ht hown hK hP dX12_unit_140 ?_
          refine ow_top (v 30) (hV_5 30 (by decide)) ?_
          have q_9 : 0 ≤ (v 30).toInt ∧ (v 30).toInt ≤ 1 := by have h9 : v5 30 = (v 30) := (hV_5 30 (by decide)); rw [← h9]; exact hv 30
          refine lv_dup2_11 hx hb dX12_unit_143 rfl rfl ?_
          have q_10 : vp_in (v 30) 2 := vp_in_iff.mpr ⟨by omega, by omega⟩
          refine ml_13 hx hb hK hP q_10 dX12_unit_144 ?_
          refine lv_topi (fun v_11 ev_11 => ?_)
          have q_12 : 0 ≤ v_11.toInt ∧ v_11.toInt ≤ 60 := by rw [ev_11]; exact MIf.rd 13 hf q_10
          have q_13 : v_11.toInt = ((f 13) (Int32.toNatClampNeg (v 30))).toInt := (congrArg Int32.toInt ev_11).trans (congrArg (fun z : Nat → Int32 => (z (Int32.toNatClampNeg (v 30))).toInt) (show f 13 = (f 13) from rfl))
          refine W.widen (k := 0) (n := 0) (Nat.le_of_ble_eq_true rfl) (Nat.le_of_ble_eq_true rfl) ?_
          have jn_14 : ∀ (y0_14 : Int32) (H : Heap) (locs : List Loc) (ls : Array Slot), (0 ≤ y0_14.toInt ∧ y0_14.toInt ≤ 1) → (y0_14.toInt = 1 - y0_2.toInt) → va_P G vwCl (WMs cy mo h v5 nm5 f g) H → va_D A (WMs cy mo h v5 nm5 f g) → va_S A s.heap H locs → lv_has ls 6 [(4, .int r_u_4), (3, .int r_u_3), (2, .int y0_2), (1, .int y0_1), (0, .ref mo)] → W p l e (headSpec (.code yX12_unit cX12_unit 6 (some .boolean) :: TBg) ({ frames := 3, cells := 0, slots := 0, locals := 192 })).room s m ([.ref mo] : List Value).toArray below meth c H locs 0 0 (MQ below (va_Qi (fun (r : Int32) (u : (Nat → Int32) × Int64 × (Nat → Nat → Int32) × (Nat → Nat → Int64)) => MIv T u.1 ∧ MIf u.2.2.1 ∧ RI u.1 u.2.2.1 ∧ WL u.1 u.2.2.1 ∧ FV [4, 5, 6, 7, 8, 9, 31, 32, 33] v u.1 ∧ FF [13, 24, 25, 26, 27] f u.2.2.1 ∧ ((r.toInt = 0 ∨ r.toInt = 1) ∧ ((u.1 7).toInt ≤ (v 3).toInt)) ∧ (0 ≤ mz (v 3).toInt (u.1 7).toInt (u.1 8).toInt ∧ mz (v 3).toInt (u.1 7).toInt (u.1 8).toInt ≤ mz (v 3).toInt (v 7).toInt (v 8).toInt ∧ ((u.1 4).toInt ≠ 0 ∨ mz (v 3).toInt (u.1 7).toInt (u.1 8).toInt < mz (v 3).toInt (v 7).toInt (v 8).toInt)) ∧ ((u.1 4).toInt = 0 → EI r.toInt (v 30).toInt Fz (u.1 31).toInt (u.1 33).toInt (u.1 32).toInt (u.2.2.1 13 (Int32.toNatClampNeg (v 30))).toInt (u.2.2.1 26) (u.2.2.1 27) (u.2.2.1 24) (u.2.2.1 25)) ∧ (OUT Fz (600 * (v 30).toInt + 600) (f 24) (f 25) (u.2.2.1 24) (u.2.2.1 25))) (fun u t => Ex G A (WMs cy mo h u.1 u.2.1 u.2.2.1 u.2.2.2) t) A) ([.ref mo] : List Value).toArray s 0 0 A) (F0 m 154 ls [.int y0_14, .int v_11, .int (v 30), .ref (h 13)]) := by
            intro y0_14 H locs ls qf14_0 qf14_1 hP hD hS hl
            refine lv_iadd hx hb dX12_unit_154 ?_
            refine lv_topi (fun v_15 ev_15 => ?_)
            have q_16 : v_15.toInt = v_11.toInt + y0_14.toInt := ow_add ev_15 (by omega) (by omega)
            have q_17 : vp_in (v 30) 2 := vp_in_iff.mpr ⟨by omega, by omega⟩
            refine ms_13 hx hb hK hP hD hS q_17 dX12_unit_155 (fun H locs hP hD hS => ?_)
            have hf := MIf.up 13 (i := (Int32.toNatClampNeg (v 30))) hf (show 0 ≤ v_15.toInt ∧ v_15.toInt ≤ 60 from by omega)
            have hF_0 := FF.up hF_0 13 (upd (f 13) (Int32.toNatClampNeg (v 30)) v_15) (by decide)
            have hL : WL v5 (va_up f 13 (upd (f 13) (Int32.toNatClampNeg (v 30)) v_15)) := WL.upf 13 hL (by decide)
            have hR : RI v5 (va_up f 13 (upd (f 13) (Int32.toNatClampNeg (v 30)) v_15)) := RI.up 13 hR (by decide)
            have hU1 : ((upd (f 13) (Int32.toNatClampNeg (v 30)) v_15) (Int32.toNatClampNeg (v 30))).toInt = v_15.toInt := by rw [pk_us]
            refine lv_aload_n hx hb dX12_unit_156 rfl (lv_at hl 4 rfl) ?_
            refine mg_9 hx hb ht hown hK hP dX12_unit_157 ?_
            refine ow_top (v 9) (hV_5 9 (by decide)) ?_
            refine lv_istore (lv' := [(5, .int (v 9)), (4, .int r_u_4), (3, .int r_u_3), (2, .int y0_2), (1, .int y0_1), (0, .ref mo)]) hx hb dX12_unit_160 hl (by decide) rfl (fun ls hl => ?_)
            refine lv_aload_n hx hb dX12_unit_162 rfl (lv_at hl 5 rfl) ?_
            have hFc := fr_free hD hS hA
            refine va_callv (va_runV (As := []) (rest := []) ⟨hx, hb, hml, hown, ht⟩ (m_goOn l G cy _ mo h T v5 nm5 (va_up f 13 (upd (f 13) (Int32.toNatClampNeg (v 30)) v_15)) g   hv hf hR hL (show (v5 7).toInt ≤ (v5 3).toInt from by rw [(show v5 7 = (v 7) from (hV_5 7 (by decide))), (show v5 3 = (v 3) from (hV_5 3 (by decide)))]; omega)) (cwV 0 ht (gv k_232 k_233 k_234 k_61 k_231) rfl rfl rfl (by decide +kernel) ⟨Nat.le_of_ble_eq_true rfl, Nat.le_of_ble_eq_true rfl⟩) ⟨En.blind, va_recv hK hP (ci := 12) (q0 := 0) rfl rfl, fun U hU hW => ⟨rfl, En.of hU hW hP hK hD hN⟩⟩ rfl rfl hl.1 rfl (lv_room (Nat.le_of_ble_eq_true rfl)) dX12_unit_163 ⟨Nat.le_of_ble_eq_true rfl, Nat.le_of_ble_eq_true rfl⟩) hS (fun q _ h => hFc q h) hFc (fun u_18 t9 H locs ht9 hvm hw hB hz1 hk1 hS => ?_)
            obtain ⟨v18, nm18⟩ := u_18
            obtain ⟨hP1, hD1⟩ := hB
            rw [ht9] at hP1
            obtain ⟨hv, xu_18V, wu_18, xu_18_M⟩ := hw
            dsimp only at hv xu_18V wu_18 xu_18_M
            have hP : va_P G vwCl (WMs cy mo h v18 nm18 (va_up f 13 (upd (f 13) (Int32.toNatClampNeg (v 30)) v_15)) g) H := hP1
            have hD : va_D A (WMs cy mo h v18 nm18 (va_up f 13 (upd (f 13) (Int32.toNatClampNeg (v 30)) v_15)) g) := hD1.weaken (fun _ _ _ h => hFc _ h)
            have hR : RI v18 (va_up f 13 (upd (f 13) (Int32.toNatClampNeg (v 30)) v_15)) := RI.fv hR xu_18V (by decide)
            have hL : WL v18 (va_up f 13 (upd (f 13) (Int32.toNatClampNeg (v 30)) v_15)) := WL.fv hL xu_18V (by decide) (by decide)
            have hV_0 := FV.tr hV_0 xu_18V (by decide)
            clear hFc hk1 hz1 hP1 hD1
            have wu_18 : ((v18 7).toInt ≤ (v 3).toInt ∧ (((v18 8).toInt = 0 ∧ (v18 7).toInt = (v 3).toInt) ∨ ((v18 8).toInt ≠ 0 ∧ (v 7).toInt < (v18 7).toInt))) := by
              have h9 : ((v18 7).toInt ≤ (v5 3).toInt ∧ (((v18 8).toInt = 0 ∧ (v18 7).toInt = (v5 3).toInt) ∨ ((v18 8).toInt ≠ 0 ∧ (v5 7).toInt < (v18 7).toInt))) := wu_18
              rw [(show v5 3 = (v 3) from (hV_5 3 (by decide))), (show v5 7 = (v 7) from (hV_5 7 (by decide)))] at h9
              exact h9
            have xu_18_M : 0 ≤ mz (v 3).toInt (v18 7).toInt (v18 8).toInt ∧ mz (v 3).toInt (v18 7).toInt (v18 8).toInt ≤ mz (v 3).toInt (v 7).toInt (v 8).toInt ∧ ((v 8).toInt = 0 ∨ mz (v 3).toInt (v18 7).toInt (v18 8).toInt < mz (v 3).toInt (v 7).toInt (v 8).toInt) := by
              have h9 : 0 ≤ mz (v5 3).toInt (v18 7).toInt (v18 8).toInt ∧ mz (v5 3).toInt (v18 7).toInt (v18 8).toInt ≤ mz (v5 3).toInt (v5 7).toInt (v5 8).toInt ∧ ((v5 8).toInt = 0 ∨ mz (v5 3).toInt (v18 7).toInt (v18 8).toInt < mz (v5 3).toInt (v5 7).toInt (v5 8).toInt) := xu_18_M
              rw [(show v5 3 = (v 3) from (hV_5 3 (by decide))), (show v5 7 = (v 7) from (hV_5 7 (by decide))), (show v5 8 = (v 8) from (hV_5 8 (by decide)))] at h9
              exact h9
            refine lv_iload_n hx hb dX12_unit_166 rfl (lv_at hl 3 rfl) ?_
            refine lv_if_ne (tgt := 174) hx hb dX12_unit_167 (by decide) (fun c_19 => ?_) (fun c_19 => ?_)
            · have q_20 : ¬ y0_2.toInt = (0 : Int32).toInt := by have := (not_congr (ow_eq _ _)).mp c_19; omega
              refine lv_aload_n hx hb dX12_unit_174 rfl (lv_at hl 5 rfl) ?_
              refine lv_iload_n hx hb dX12_unit_175 rfl (lv_at hl 3 rfl) ?_
              refine lv_if_eq (tgt := 183) hx hb dX12_unit_176 (by decide) (fun c_21 => ?_) (fun c_21 => ?_)
              · have q_22 : y0_2.toInt = (0 : Int32).toInt := (ow_eq _ _).mp c_21
                exfalso
                omega
              · have q_23 : ¬ y0_2.toInt = (0 : Int32).toInt := by have := (not_congr (ow_eq _ _)).mp c_21; omega
                refine lv_iconst (v := 3) hx hb dX12_unit_179 (by decide) ?_
                refine lv_goto (tgt := 185) hx hb dX12_unit_180 (by decide) ?_
                refine lv_bipush (v := 126) hx hb dX12_unit_185 (by decide) ?_
                have hFc := fr_free hD hS hA
                refine va_callv (va_runV (As := [.int 3, .int 126]) (rest := []) ⟨hx, hb, hml, hown, ht⟩ (m_pushE l G cy _ mo h T v18 nm18 (va_up f 13 (upd (f 13) (Int32.toNatClampNeg (v 30)) v_15)) g (3) (126) ((v 33)) hv hf hR hL ((xu_18V 33 (by decide)).trans (hV_5 33 (by decide))) (show 0 ≤ ((v18 33)).toInt ∧ ((v18 33)).toInt ≤ 119 from by rw [(show v18 33 = (v 33) from ((xu_18V 33 (by decide)).trans (hV_5 33 (by decide))))]; omega)) (cwV 2 ht (gv k_252 k_253 k_254 k_61 k_251) rfl rfl rfl (by decide +kernel) ⟨Nat.le_of_ble_eq_true rfl, Nat.le_of_ble_eq_true rfl⟩) ⟨En.blind, va_recv hK hP (ci := 12) (q0 := 0) rfl rfl, fun U hU hW => ⟨rfl, En.of hU hW hP hK hD hN⟩⟩ rfl rfl hl.1 rfl (lv_room (Nat.le_of_ble_eq_true rfl)) dX12_unit_187 ⟨Nat.le_of_ble_eq_true rfl, Nat.le_of_ble_eq_true rfl⟩) hS (fun q _ h => hFc q h) hFc (fun u_24 t9 H locs ht9 hvm hw hB hz1 hk1 hS => ?_)
                obtain ⟨hP1, hD1⟩ := hB
                rw [ht9] at hP1
                have wu_24 := hw
                have q_26 : ((v 33) + 1).toInt = (v 33).toInt + 1 := ow_add rfl (by omega) (by omega)
                have hv := MIv.up 33 hv (show 0 ≤ ((v 33) + 1).toInt ∧ ((v 33) + 1).toInt ≤ 120 from by omega)
                have hR : RI (va_up v18 33 ((v 33) + 1)) (va_up f 13 (upd (f 13) (Int32.toNatClampNeg (v 30)) v_15)) := RI.upv 33 hR (by decide)
                have hL : WL (va_up v18 33 ((v 33) + 1)) (va_up f 13 (upd (f 13) (Int32.toNatClampNeg (v 30)) v_15)) := WL.upv 33 hL (by decide)
                have hV_0 := FV.up hV_0 33 ((v 33) + 1) (by decide)
                have hf := MIf.up 26 (i := (Int32.toNatClampNeg (v 33))) hf (ow_any (3 : Int32))
                have hF_0 := FF.up hF_0 26 (upd ((va_up f 13 (upd (f 13) (Int32.toNatClampNeg (v 30)) v_15)) 26) (Int32.toNatClampNeg (v 33)) (3 : Int32)) (by decide)
                have hR : RI (va_up v18 33 ((v 33) + 1)) (va_up (va_up f 13 (upd (f 13) (Int32.toNatClampNeg (v 30)) v_15)) 26 (upd ((va_up f 13 (upd (f 13) (Int32.toNatClampNeg (v 30)) v_15)) 26) (Int32.toNatClampNeg (v 33)) (3 : Int32))) := RI.up 26 hR (by decide)
                have hL : WL (va_up v18 33 ((v 33) + 1)) (va_up (va_up f 13 (upd (f 13) (Int32.toNatClampNeg (v 30)) v_15)) 26 (upd ((va_up f 13 (upd (f 13) (Int32.toNatClampNeg (v 30)) v_15)) 26) (Int32.toNatClampNeg (v 33)) (3 : Int32))) := WL.upf 26 hL (by decide)
                have hf := MIf.up 27 (i := (Int32.toNatClampNeg (v 33))) hf (ow_any (126 : Int32))
                have hF_0 := FF.up hF_0 27 (upd ((va_up (va_up f 13 (upd (f 13) (Int32.toNatClampNeg (v 30)) v_15)) 26 (upd ((va_up f 13 (upd (f 13) (Int32.toNatClampNeg (v 30)) v_15)) 26) (Int32.toNatClampNeg (v 33)) (3 : Int32))) 27) (Int32.toNatClampNeg (v 33)) (126 : Int32)) (by decide)
                have hR : RI (va_up v18 33 ((v 33) + 1)) (va_up (va_up (va_up f 13 (upd (f 13) (Int32.toNatClampNeg (v 30)) v_15)) 26 (upd ((va_up f 13 (upd (f 13) (Int32.toNatClampNeg (v 30)) v_15)) 26) (Int32.toNatClampNeg (v 33)) (3 : Int32))) 27 (upd ((va_up (va_up f 13 (upd (f 13) (Int32.toNatClampNeg (v 30)) v_15)) 26 (upd ((va_up f 13 (upd (f 13) (Int32.toNatClampNeg (v 30)) v_15)) 26) (Int32.toNatClampNeg (v 33)) (3 : Int32))) 27) (Int32.toNatClampNeg (v 33)) (126 : Int32))) := RI.up 27 hR (by decide)
                have hL : WL (va_up v18 33 ((v 33) + 1)) (va_up (va_up (va_up f 13 (upd (f 13) (Int32.toNatClampNeg (v 30)) v_15)) 26 (upd ((va_up f 13 (upd (f 13) (Int32.toNatClampNeg (v 30)) v_15)) 26) (Int32.toNatClampNeg (v 33)) (3 : Int32))) 27 (upd ((va_up (va_up f 13 (upd (f 13) (Int32.toNatClampNeg (v 30)) v_15)) 26 (upd ((va_up f 13 (upd (f 13) (Int32.toNatClampNeg (v 30)) v_15)) 26) (Int32.toNatClampNeg (v 33)) (3 : Int32))) 27) (Int32.toNatClampNeg (v 33)) (126 : Int32))) := WL.upf 27 hL (by decide)
                have hP : va_P G vwCl (WMs cy mo h (va_up v18 33 ((v 33) + 1)) nm18 (va_up (va_up (va_up f 13 (upd (f 13) (Int32.toNatClampNeg (v 30)) v_15)) 26 (upd ((va_up f 13 (upd (f 13) (Int32.toNatClampNeg (v 30)) v_15)) 26) (Int32.toNatClampNeg (v 33)) (3 : Int32))) 27 (upd ((va_up (va_up f 13 (upd (f 13) (Int32.toNatClampNeg (v 30)) v_15)) 26 (upd ((va_up f 13 (upd (f 13) (Int32.toNatClampNeg (v 30)) v_15)) 26) (Int32.toNatClampNeg (v 33)) (3 : Int32))) 27) (Int32.toNatClampNeg (v 33)) (126 : Int32))) g) H := hP1
                have hD : va_D A (WMs cy mo h (va_up v18 33 ((v 33) + 1)) nm18 (va_up (va_up (va_up f 13 (upd (f 13) (Int32.toNatClampNeg (v 30)) v_15)) 26 (upd ((va_up f 13 (upd (f 13) (Int32.toNatClampNeg (v 30)) v_15)) 26) (Int32.toNatClampNeg (v 33)) (3 : Int32))) 27 (upd ((va_up (va_up f 13 (upd (f 13) (Int32.toNatClampNeg (v 30)) v_15)) 26 (upd ((va_up f 13 (upd (f 13) (Int32.toNatClampNeg (v 30)) v_15)) 26) (Int32.toNatClampNeg (v 33)) (3 : Int32))) 27) (Int32.toNatClampNeg (v 33)) (126 : Int32))) g) := hD1.weaken (fun _ _ _ h => hFc _ h)
                clear hFc hk1 hz1 hP1 hD1 hw
                refine lv_aload_n hx hb dX12_unit_190 rfl (lv_at hl 5 rfl) ?_
                refine lv_dup hx hb dX12_unit_191 rfl ?_
                refine mg_32 hx hb ht hown hK hP dX12_unit_192 ?_
                refine ow_top (v 32) ((xu_18V 32 (by decide)).trans (hV_5 32 (by decide))) ?_
                have q_27 : 0 ≤ (v 32).toInt ∧ (v 32).toInt ≤ 7 := by have h9 : (va_up v18 33 ((v 33) + 1)) 32 = (v 32) := ((xu_18V 32 (by decide)).trans (hV_5 32 (by decide))); rw [← h9]; exact hv 32
                refine lv_iconst (v := 1) hx hb dX12_unit_195 (by decide) ?_
                refine lv_iadd hx hb dX12_unit_196 ?_
                refine lv_topi (fun v_28 ev_28 => ?_)
                have q_29 : v_28.toInt = (v 32).toInt + (1 : Int32).toInt := ow_add ev_28 (by omega) (by omega)
                refine mp_32 hx hb ht hown hK hP hD hS dX12_unit_197 (fun H locs hP hD hS => ?_)
                have hv := MIv.up 32 hv (show 0 ≤ v_28.toInt ∧ v_28.toInt ≤ 7 from by omega)
                have hL : WL (va_up (va_up v18 33 ((v 33) + 1)) 32 v_28) (va_up (va_up (va_up f 13 (upd (f 13) (Int32.toNatClampNeg (v 30)) v_15)) 26 (upd ((va_up f 13 (upd (f 13) (Int32.toNatClampNeg (v 30)) v_15)) 26) (Int32.toNatClampNeg (v 33)) (3 : Int32))) 27 (upd ((va_up (va_up f 13 (upd (f 13) (Int32.toNatClampNeg (v 30)) v_15)) 26 (upd ((va_up f 13 (upd (f 13) (Int32.toNatClampNeg (v 30)) v_15)) 26) (Int32.toNatClampNeg (v 33)) (3 : Int32))) 27) (Int32.toNatClampNeg (v 33)) (126 : Int32))) := WL.upv 32 hL (by decide)
                have hR : RI (va_up (va_up v18 33 ((v 33) + 1)) 32 v_28) (va_up (va_up (va_up f 13 (upd (f 13) (Int32.toNatClampNeg (v 30)) v_15)) 26 (upd ((va_up f 13 (upd (f 13) (Int32.toNatClampNeg (v 30)) v_15)) 26) (Int32.toNatClampNeg (v 33)) (3 : Int32))) 27 (upd ((va_up (va_up f 13 (upd (f 13) (Int32.toNatClampNeg (v 30)) v_15)) 26 (upd ((va_up f 13 (upd (f 13) (Int32.toNatClampNeg (v 30)) v_15)) 26) (Int32.toNatClampNeg (v 33)) (3 : Int32))) 27) (Int32.toNatClampNeg (v 33)) (126 : Int32))) := RI.upv 32 hR (by decide)
                have hV_0 := FV.up hV_0 32 v_28 (by decide)
                refine lv_iconst (v := 1) hx hb dX12_unit_200 (by decide) ?_
                refine W.widen (k := 0) (n := 0) (Nat.le_of_ble_eq_true rfl) (Nat.le_of_ble_eq_true rfl) ?_
                exact W.zret (v := 1) hx hb hr rfl (fun t ht9 hW => ⟨⟨1, ((va_up (va_up v18 33 ((v 33) + 1)) 32 v_28), nm18, (va_up (va_up (va_up f 13 (upd (f 13) (Int32.toNatClampNeg (v 30)) v_15)) 26 (upd ((va_up f 13 (upd (f 13) (Int32.toNatClampNeg (v 30)) v_15)) 26) (Int32.toNatClampNeg (v 33)) (3 : Int32))) 27 (upd ((va_up (va_up f 13 (upd (f 13) (Int32.toNatClampNeg (v 30)) v_15)) 26 (upd ((va_up f 13 (upd (f 13) (Int32.toNatClampNeg (v 30)) v_15)) 26) (Int32.toNatClampNeg (v 33)) (3 : Int32))) 27) (Int32.toNatClampNeg (v 33)) (126 : Int32))), g), rfl, ⟨hv, hf, hR, hL, hV_0, hF_0, ⟨(by omega), (show (v18 7).toInt ≤ (v 3).toInt from by first | omega | (subst_vars; first | rfl | omega))⟩, (show 0 ≤ mz (v 3).toInt (v18 7).toInt (v18 8).toInt ∧ mz (v 3).toInt (v18 7).toInt (v18 8).toInt ≤ mz (v 3).toInt (v 7).toInt (v 8).toInt ∧ ((v18 4).toInt ≠ 0 ∨ mz (v 3).toInt (v18 7).toInt (v18 8).toInt < mz (v 3).toInt (v 7).toInt (v 8).toInt) from by rw [(show v18 4 = (v5 4) from (xu_18V 4 (by decide)))]; omega), (show (v18 4).toInt = 0 → EI (1 : Int32).toInt (v 30).toInt Fz (v18 31).toInt ((v 33) + 1).toInt v_28.toInt ((upd (f 13) (Int32.toNatClampNeg (v 30)) v_15) (Int32.toNatClampNeg (v 30))).toInt (upd (f 26) (Int32.toNatClampNeg (v 33)) (3 : Int32)) (upd (f 27) (Int32.toNatClampNeg (v 33)) (126 : Int32)) (f 24) (f 25) from by rw [(show v18 4 = (v5 4) from (xu_18V 4 (by decide))), (show v18 31 = (v 31) from ((xu_18V 31 (by decide)).trans (hV_5 31 (by decide))))]; exact fun h9 => EI.cast (EI.grow hE (by omega) (by omega) (by omega)) (by omega) (by omega) (by omega) (by omega) rfl), (show OUT Fz (600 * (v 30).toInt + 600) (f 24) (f 25) (f 24) (f 25) from by exact OUT.rf)⟩, ⟨by rw [ht9]; exact hP, hD⟩⟩, hS.F ht9⟩) hS.2.2 dX12_unit_201
            · have q_30 : y0_2.toInt = (0 : Int32).toInt := (ow_eq _ _).mp c_19
              refine lv_iload_n hx hb dX12_unit_170 rfl (lv_at hl 2 rfl) ?_
              refine lv_if_eq (tgt := 202) hx hb dX12_unit_171 (by decide) (fun c_31 => ?_) (fun c_31 => ?_)
              · have q_32 : r_u_3.toInt = (0 : Int32).toInt := (ow_eq _ _).mp c_31
                refine W.widen (k := 0) (n := 0) (Nat.le_of_ble_eq_true rfl) (Nat.le_of_ble_eq_true rfl) ?_
                have jn_33 : ∀ (x5_33 : Int32) (v33 : Nat → Int32) (nm33 : Int64) (H : Heap) (locs : List Loc) (ls : Array Slot), MIv T v33 → FV [4, 5, 6, 7, 8, 9] v18 v33 → ((v33 7).toInt ≤ (v 3).toInt ∧ 0 ≤ mz (v 3).toInt (v33 7).toInt (v33 8).toInt ∧ mz (v 3).toInt (v33 7).toInt (v33 8).toInt < mz (v 3).toInt (v 7).toInt (v 8).toInt) → ((v33 4).toInt ≠ 0 ∨ (¬ r_u_4.toInt = 105 ∧ ¬ r_u_4.toInt = 98 ∧ ¬ r_u_4.toInt = 101) ∨ (0 ≤ x5_33.toInt ∧ x5_33.toInt ≤ 13)) → va_P G vwCl (WMs cy mo h v33 nm33 (va_up f 13 (upd (f 13) (Int32.toNatClampNeg (v 30)) v_15)) g) H → va_D A (WMs cy mo h v33 nm33 (va_up f 13 (upd (f 13) (Int32.toNatClampNeg (v 30)) v_15)) g) → va_S A s.heap H locs → lv_has ls 6 [(5, .int x5_33), (4, .int r_u_4), (3, .int r_u_3), (2, .int y0_2), (1, .int y0_1), (0, .ref mo)] → W p l e (headSpec (.code yX12_unit cX12_unit 6 (some .boolean) :: TBg) ({ frames := 3, cells := 0, slots := 0, locals := 192 })).room s m ([.ref mo] : List Value).toArray below meth c H locs 0 0 (MQ below (va_Qi (fun (r : Int32) (u : (Nat → Int32) × Int64 × (Nat → Nat → Int32) × (Nat → Nat → Int64)) => MIv T u.1 ∧ MIf u.2.2.1 ∧ RI u.1 u.2.2.1 ∧ WL u.1 u.2.2.1 ∧ FV [4, 5, 6, 7, 8, 9, 31, 32, 33] v u.1 ∧ FF [13, 24, 25, 26, 27] f u.2.2.1 ∧ ((r.toInt = 0 ∨ r.toInt = 1) ∧ ((u.1 7).toInt ≤ (v 3).toInt)) ∧ (0 ≤ mz (v 3).toInt (u.1 7).toInt (u.1 8).toInt ∧ mz (v 3).toInt (u.1 7).toInt (u.1 8).toInt ≤ mz (v 3).toInt (v 7).toInt (v 8).toInt ∧ ((u.1 4).toInt ≠ 0 ∨ mz (v 3).toInt (u.1 7).toInt (u.1 8).toInt < mz (v 3).toInt (v 7).toInt (v 8).toInt)) ∧ ((u.1 4).toInt = 0 → EI r.toInt (v 30).toInt Fz (u.1 31).toInt (u.1 33).toInt (u.1 32).toInt (u.2.2.1 13 (Int32.toNatClampNeg (v 30))).toInt (u.2.2.1 26) (u.2.2.1 27) (u.2.2.1 24) (u.2.2.1 25)) ∧ (OUT Fz (600 * (v 30).toInt + 600) (f 24) (f 25) (u.2.2.1 24) (u.2.2.1 25))) (fun u t => Ex G A (WMs cy mo h u.1 u.2.1 u.2.2.1 u.2.2.2) t) A) ([.ref mo] : List Value).toArray s 0 0 A) (F0 m 269 ls []) := by
                  intro x5_33 v33 nm33 H locs ls hv hV_33 qf33_0 qf33_1 hP hD hS hl
                  have hR : RI v33 (va_up f 13 (upd (f 13) (Int32.toNatClampNeg (v 30)) v_15)) := RI.fv hR hV_33 (by decide)
                  have hL : WL v33 (va_up f 13 (upd (f 13) (Int32.toNatClampNeg (v 30)) v_15)) := WL.fv hL hV_33 (by decide) (by decide)
                  have hV_0 := FV.tr hV_0 hV_33 (by decide)
                  refine lv_aload_n hx hb dX12_unit_269 rfl (lv_at hl 5 rfl) ?_
                  refine lv_iload hx hb dX12_unit_270 (lv_at hl 1 rfl) ?_
                  refine lv_if_ne (tgt := 280) hx hb dX12_unit_272 (by decide) (fun c_34 => ?_) (fun c_34 => ?_)
                  · have q_35 : ¬ r_u_4.toInt = (0 : Int32).toInt := by have := (not_congr (ow_eq _ _)).mp c_34; omega
                    refine lv_iload hx hb dX12_unit_280 (lv_at hl 1 rfl) ?_
                    refine lv_iload hx hb dX12_unit_282 (lv_at hl 0 rfl) ?_
                    have hFc := fr_free hD hS hA
                    refine va_callv (va_runV (As := [.int r_u_4, .int x5_33]) (rest := []) ⟨hx, hb, hml, hown, ht⟩ (m_emit l G cy _ mo h T v33 nm33 (va_up f 13 (upd (f 13) (Int32.toNatClampNeg (v 30)) v_15)) g r_u_4 x5_33 ((v 31)) hv hf hR hL ((hV_33 31 (by decide)).trans ((xu_18V 31 (by decide)).trans (hV_5 31 (by decide)))) (show 0 ≤ ((v33 31)).toInt ∧ ((v33 31)).toInt ≤ 1199 from by rw [(show v33 31 = (v 31) from ((hV_33 31 (by decide)).trans ((xu_18V 31 (by decide)).trans (hV_5 31 (by decide)))))]; omega)) (cwV 2 ht (gv k_256 k_257 k_258 k_61 k_255) rfl rfl rfl (by decide +kernel) ⟨Nat.le_of_ble_eq_true rfl, Nat.le_of_ble_eq_true rfl⟩) ⟨En.blind, va_recv hK hP (ci := 12) (q0 := 0) rfl rfl, fun U hU hW => ⟨rfl, En.of hU hW hP hK hD hN⟩⟩ rfl rfl hl.1 rfl (lv_room (Nat.le_of_ble_eq_true rfl)) dX12_unit_284 ⟨Nat.le_of_ble_eq_true rfl, Nat.le_of_ble_eq_true rfl⟩) hS (fun q _ h => hFc q h) hFc (fun u_36 t9 H locs ht9 hvm hw hB hz1 hk1 hS => ?_)
                    obtain ⟨hP1, hD1⟩ := hB
                    rw [ht9] at hP1
                    have wu_36 := hw
                    have q_38 : ((v 31) + 1).toInt = (v 31).toInt + 1 := ow_add rfl (by omega) (by omega)
                    have hv := MIv.up 31 hv (show 0 ≤ ((v 31) + 1).toInt ∧ ((v 31) + 1).toInt ≤ 1200 from by omega)
                    have hR : RI (va_up v33 31 ((v 31) + 1)) (va_up f 13 (upd (f 13) (Int32.toNatClampNeg (v 30)) v_15)) := RI.upv 31 hR (by decide)
                    have hL : WL (va_up v33 31 ((v 31) + 1)) (va_up f 13 (upd (f 13) (Int32.toNatClampNeg (v 30)) v_15)) := WL.upv 31 hL (by decide)
                    have hV_0 := FV.up hV_0 31 ((v 31) + 1) (by decide)
                    have hf := MIf.up 24 (i := (Int32.toNatClampNeg (v 31))) hf (ow_any r_u_4)
                    have hF_0 := FF.up hF_0 24 (upd ((va_up f 13 (upd (f 13) (Int32.toNatClampNeg (v 30)) v_15)) 24) (Int32.toNatClampNeg (v 31)) r_u_4) (by decide)
                    have hR : RI (va_up v33 31 ((v 31) + 1)) (va_up (va_up f 13 (upd (f 13) (Int32.toNatClampNeg (v 30)) v_15)) 24 (upd ((va_up f 13 (upd (f 13) (Int32.toNatClampNeg (v 30)) v_15)) 24) (Int32.toNatClampNeg (v 31)) r_u_4)) := RIb.w24 hR (show ((Int32.toNatClampNeg (v 31) : Nat) : Int) < 600 * ((Int32.toNatClampNeg (v33 29) : Nat) : Int) ∨ 600 * ((Int32.toNatClampNeg (v33 29) : Nat) : Int) + 600 ≤ ((Int32.toNatClampNeg (v 31) : Nat) : Int) from by rw [show v33 29 = (v 29) from ((hV_33 29 (by decide)).trans ((xu_18V 29 (by decide)).trans (hV_5 29 (by decide))))]; rw [ow_tn, ow_tn]; omega)
                    have hL : WL (va_up v33 31 ((v 31) + 1)) (va_up (va_up f 13 (upd (f 13) (Int32.toNatClampNeg (v 30)) v_15)) 24 (upd ((va_up f 13 (upd (f 13) (Int32.toNatClampNeg (v 30)) v_15)) 24) (Int32.toNatClampNeg (v 31)) r_u_4)) := WL.upf 24 hL (by decide)
                    have hf := MIf.up 25 (i := (Int32.toNatClampNeg (v 31))) hf (ow_any x5_33)
                    have hF_0 := FF.up hF_0 25 (upd ((va_up (va_up f 13 (upd (f 13) (Int32.toNatClampNeg (v 30)) v_15)) 24 (upd ((va_up f 13 (upd (f 13) (Int32.toNatClampNeg (v 30)) v_15)) 24) (Int32.toNatClampNeg (v 31)) r_u_4)) 25) (Int32.toNatClampNeg (v 31)) x5_33) (by decide)
                    have hR : RI (va_up v33 31 ((v 31) + 1)) (va_up (va_up (va_up f 13 (upd (f 13) (Int32.toNatClampNeg (v 30)) v_15)) 24 (upd ((va_up f 13 (upd (f 13) (Int32.toNatClampNeg (v 30)) v_15)) 24) (Int32.toNatClampNeg (v 31)) r_u_4)) 25 (upd ((va_up (va_up f 13 (upd (f 13) (Int32.toNatClampNeg (v 30)) v_15)) 24 (upd ((va_up f 13 (upd (f 13) (Int32.toNatClampNeg (v 30)) v_15)) 24) (Int32.toNatClampNeg (v 31)) r_u_4)) 25) (Int32.toNatClampNeg (v 31)) x5_33)) := RIb.w25 hR (show ((Int32.toNatClampNeg (v 31) : Nat) : Int) < 600 * ((Int32.toNatClampNeg (v33 29) : Nat) : Int) ∨ 600 * ((Int32.toNatClampNeg (v33 29) : Nat) : Int) + 600 ≤ ((Int32.toNatClampNeg (v 31) : Nat) : Int) from by rw [show v33 29 = (v 29) from ((hV_33 29 (by decide)).trans ((xu_18V 29 (by decide)).trans (hV_5 29 (by decide))))]; rw [ow_tn, ow_tn]; omega)
                    have hL : WL (va_up v33 31 ((v 31) + 1)) (va_up (va_up (va_up f 13 (upd (f 13) (Int32.toNatClampNeg (v 30)) v_15)) 24 (upd ((va_up f 13 (upd (f 13) (Int32.toNatClampNeg (v 30)) v_15)) 24) (Int32.toNatClampNeg (v 31)) r_u_4)) 25 (upd ((va_up (va_up f 13 (upd (f 13) (Int32.toNatClampNeg (v 30)) v_15)) 24 (upd ((va_up f 13 (upd (f 13) (Int32.toNatClampNeg (v 30)) v_15)) 24) (Int32.toNatClampNeg (v 31)) r_u_4)) 25) (Int32.toNatClampNeg (v 31)) x5_33)) := WL.upf 25 hL (by decide)
                    have hP : va_P G vwCl (WMs cy mo h (va_up v33 31 ((v 31) + 1)) nm33 (va_up (va_up (va_up f 13 (upd (f 13) (Int32.toNatClampNeg (v 30)) v_15)) 24 (upd ((va_up f 13 (upd (f 13) (Int32.toNatClampNeg (v 30)) v_15)) 24) (Int32.toNatClampNeg (v 31)) r_u_4)) 25 (upd ((va_up (va_up f 13 (upd (f 13) (Int32.toNatClampNeg (v 30)) v_15)) 24 (upd ((va_up f 13 (upd (f 13) (Int32.toNatClampNeg (v 30)) v_15)) 24) (Int32.toNatClampNeg (v 31)) r_u_4)) 25) (Int32.toNatClampNeg (v 31)) x5_33)) g) H := hP1
                    have hD : va_D A (WMs cy mo h (va_up v33 31 ((v 31) + 1)) nm33 (va_up (va_up (va_up f 13 (upd (f 13) (Int32.toNatClampNeg (v 30)) v_15)) 24 (upd ((va_up f 13 (upd (f 13) (Int32.toNatClampNeg (v 30)) v_15)) 24) (Int32.toNatClampNeg (v 31)) r_u_4)) 25 (upd ((va_up (va_up f 13 (upd (f 13) (Int32.toNatClampNeg (v 30)) v_15)) 24 (upd ((va_up f 13 (upd (f 13) (Int32.toNatClampNeg (v 30)) v_15)) 24) (Int32.toNatClampNeg (v 31)) r_u_4)) 25) (Int32.toNatClampNeg (v 31)) x5_33)) g) := hD1.weaken (fun _ _ _ h => hFc _ h)
                    clear hFc hk1 hz1 hP1 hD1 hw
                    refine lv_iconst (v := 0) hx hb dX12_unit_287 (by decide) ?_
                    refine W.widen (k := 0) (n := 0) (Nat.le_of_ble_eq_true rfl) (Nat.le_of_ble_eq_true rfl) ?_
                    exact W.zret (v := 0) hx hb hr rfl (fun t ht9 hW => ⟨⟨0, ((va_up v33 31 ((v 31) + 1)), nm33, (va_up (va_up (va_up f 13 (upd (f 13) (Int32.toNatClampNeg (v 30)) v_15)) 24 (upd ((va_up f 13 (upd (f 13) (Int32.toNatClampNeg (v 30)) v_15)) 24) (Int32.toNatClampNeg (v 31)) r_u_4)) 25 (upd ((va_up (va_up f 13 (upd (f 13) (Int32.toNatClampNeg (v 30)) v_15)) 24 (upd ((va_up f 13 (upd (f 13) (Int32.toNatClampNeg (v 30)) v_15)) 24) (Int32.toNatClampNeg (v 31)) r_u_4)) 25) (Int32.toNatClampNeg (v 31)) x5_33)), g), rfl, ⟨hv, hf, hR, hL, hV_0, hF_0, ⟨(by omega), (show (v33 7).toInt ≤ (v 3).toInt from by first | omega | (subst_vars; first | rfl | omega))⟩, (show 0 ≤ mz (v 3).toInt (v33 7).toInt (v33 8).toInt ∧ mz (v 3).toInt (v33 7).toInt (v33 8).toInt ≤ mz (v 3).toInt (v 7).toInt (v 8).toInt ∧ ((v33 4).toInt ≠ 0 ∨ mz (v 3).toInt (v33 7).toInt (v33 8).toInt < mz (v 3).toInt (v 7).toInt (v 8).toInt) from by omega), (show (v33 4).toInt = 0 → EI (0 : Int32).toInt (v 30).toInt Fz ((v 31) + 1).toInt (v33 33).toInt (v33 32).toInt ((upd (f 13) (Int32.toNatClampNeg (v 30)) v_15) (Int32.toNatClampNeg (v 30))).toInt (f 26) (f 27) (upd (f 24) (Int32.toNatClampNeg (v 31)) r_u_4) (upd (f 25) (Int32.toNatClampNeg (v 31)) x5_33) from by rw [(show v33 33 = (v 33) from ((hV_33 33 (by decide)).trans ((xu_18V 33 (by decide)).trans (hV_5 33 (by decide))))), (show v33 32 = (v 32) from ((hV_33 32 (by decide)).trans ((xu_18V 32 (by decide)).trans (hV_5 32 (by decide)))))]; exact fun h9 => EI.cast (EI.leaf hE (by omega) (by omega) (by omega) (by unfold okc; omega)) (by omega) (by omega) (by omega) (by omega) (by omega)), (show OUT Fz (600 * (v 30).toInt + 600) (f 24) (f 25) (upd (f 24) (Int32.toNatClampNeg (v 31)) r_u_4) (upd (f 25) (Int32.toNatClampNeg (v 31)) x5_33) from by exact OUT.w OUT.rf _ _ ⟨by rw [ow_tn]; omega, by rw [ow_tn]; omega⟩)⟩, ⟨by rw [ht9]; exact hP, hD⟩⟩, hS.F ht9⟩) hS.2.2 dX12_unit_288
                  · have q_39 : r_u_4.toInt = (0 : Int32).toInt := (ow_eq _ _).mp c_34
                    refine lv_bipush (v := 107) hx hb dX12_unit_275 (by decide) ?_
                    refine lv_goto (tgt := 282) hx hb dX12_unit_277 (by decide) ?_
                    refine lv_iload hx hb dX12_unit_282 (lv_at hl 0 rfl) ?_
                    have hFc := fr_free hD hS hA
                    refine va_callv (va_runV (As := [.int 107, .int x5_33]) (rest := []) ⟨hx, hb, hml, hown, ht⟩ (m_emit l G cy _ mo h T v33 nm33 (va_up f 13 (upd (f 13) (Int32.toNatClampNeg (v 30)) v_15)) g (107) x5_33 ((v 31)) hv hf hR hL ((hV_33 31 (by decide)).trans ((xu_18V 31 (by decide)).trans (hV_5 31 (by decide)))) (show 0 ≤ ((v33 31)).toInt ∧ ((v33 31)).toInt ≤ 1199 from by rw [(show v33 31 = (v 31) from ((hV_33 31 (by decide)).trans ((xu_18V 31 (by decide)).trans (hV_5 31 (by decide)))))]; omega)) (cwV 2 ht (gv k_256 k_257 k_258 k_61 k_255) rfl rfl rfl (by decide +kernel) ⟨Nat.le_of_ble_eq_true rfl, Nat.le_of_ble_eq_true rfl⟩) ⟨En.blind, va_recv hK hP (ci := 12) (q0 := 0) rfl rfl, fun U hU hW => ⟨rfl, En.of hU hW hP hK hD hN⟩⟩ rfl rfl hl.1 rfl (lv_room (Nat.le_of_ble_eq_true rfl)) dX12_unit_284 ⟨Nat.le_of_ble_eq_true rfl, Nat.le_of_ble_eq_true rfl⟩) hS (fun q _ h => hFc q h) hFc (fun u_40 t9 H locs ht9 hvm hw hB hz1 hk1 hS => ?_)
                    obtain ⟨hP1, hD1⟩ := hB
                    rw [ht9] at hP1
                    have wu_40 := hw
                    have q_42 : ((v 31) + 1).toInt = (v 31).toInt + 1 := ow_add rfl (by omega) (by omega)
                    have hv := MIv.up 31 hv (show 0 ≤ ((v 31) + 1).toInt ∧ ((v 31) + 1).toInt ≤ 1200 from by omega)
                    have hR : RI (va_up v33 31 ((v 31) + 1)) (va_up f 13 (upd (f 13) (Int32.toNatClampNeg (v 30)) v_15)) := RI.upv 31 hR (by decide)
                    have hL : WL (va_up v33 31 ((v 31) + 1)) (va_up f 13 (upd (f 13) (Int32.toNatClampNeg (v 30)) v_15)) := WL.upv 31 hL (by decide)
                    have hV_0 := FV.up hV_0 31 ((v 31) + 1) (by decide)
                    have hf := MIf.up 24 (i := (Int32.toNatClampNeg (v 31))) hf (ow_any (107 : Int32))
                    have hF_0 := FF.up hF_0 24 (upd ((va_up f 13 (upd (f 13) (Int32.toNatClampNeg (v 30)) v_15)) 24) (Int32.toNatClampNeg (v 31)) (107 : Int32)) (by decide)
                    have hR : RI (va_up v33 31 ((v 31) + 1)) (va_up (va_up f 13 (upd (f 13) (Int32.toNatClampNeg (v 30)) v_15)) 24 (upd ((va_up f 13 (upd (f 13) (Int32.toNatClampNeg (v 30)) v_15)) 24) (Int32.toNatClampNeg (v 31)) (107 : Int32))) := RIb.w24 hR (show ((Int32.toNatClampNeg (v 31) : Nat) : Int) < 600 * ((Int32.toNatClampNeg (v33 29) : Nat) : Int) ∨ 600 * ((Int32.toNatClampNeg (v33 29) : Nat) : Int) + 600 ≤ ((Int32.toNatClampNeg (v 31) : Nat) : Int) from by rw [show v33 29 = (v 29) from ((hV_33 29 (by decide)).trans ((xu_18V 29 (by decide)).trans (hV_5 29 (by decide))))]; rw [ow_tn, ow_tn]; omega)
                    have hL : WL (va_up v33 31 ((v 31) + 1)) (va_up (va_up f 13 (upd (f 13) (Int32.toNatClampNeg (v 30)) v_15)) 24 (upd ((va_up f 13 (upd (f 13) (Int32.toNatClampNeg (v 30)) v_15)) 24) (Int32.toNatClampNeg (v 31)) (107 : Int32))) := WL.upf 24 hL (by decide)
                    have hf := MIf.up 25 (i := (Int32.toNatClampNeg (v 31))) hf (ow_any x5_33)
                    have hF_0 := FF.up hF_0 25 (upd ((va_up (va_up f 13 (upd (f 13) (Int32.toNatClampNeg (v 30)) v_15)) 24 (upd ((va_up f 13 (upd (f 13) (Int32.toNatClampNeg (v 30)) v_15)) 24) (Int32.toNatClampNeg (v 31)) (107 : Int32))) 25) (Int32.toNatClampNeg (v 31)) x5_33) (by decide)
                    have hR : RI (va_up v33 31 ((v 31) + 1)) (va_up (va_up (va_up f 13 (upd (f 13) (Int32.toNatClampNeg (v 30)) v_15)) 24 (upd ((va_up f 13 (upd (f 13) (Int32.toNatClampNeg (v 30)) v_15)) 24) (Int32.toNatClampNeg (v 31)) (107 : Int32))) 25 (upd ((va_up (va_up f 13 (upd (f 13) (Int32.toNatClampNeg (v 30)) v_15)) 24 (upd ((va_up f 13 (upd (f 13) (Int32.toNatClampNeg (v 30)) v_15)) 24) (Int32.toNatClampNeg (v 31)) (107 : Int32))) 25) (Int32.toNatClampNeg (v 31)) x5_33)) := RIb.w25 hR (show ((Int32.toNatClampNeg (v 31) : Nat) : Int) < 600 * ((Int32.toNatClampNeg (v33 29) : Nat) : Int) ∨ 600 * ((Int32.toNatClampNeg (v33 29) : Nat) : Int) + 600 ≤ ((Int32.toNatClampNeg (v 31) : Nat) : Int) from by rw [show v33 29 = (v 29) from ((hV_33 29 (by decide)).trans ((xu_18V 29 (by decide)).trans (hV_5 29 (by decide))))]; rw [ow_tn, ow_tn]; omega)
                    have hL : WL (va_up v33 31 ((v 31) + 1)) (va_up (va_up (va_up f 13 (upd (f 13) (Int32.toNatClampNeg (v 30)) v_15)) 24 (upd ((va_up f 13 (upd (f 13) (Int32.toNatClampNeg (v 30)) v_15)) 24) (Int32.toNatClampNeg (v 31)) (107 : Int32))) 25 (upd ((va_up (va_up f 13 (upd (f 13) (Int32.toNatClampNeg (v 30)) v_15)) 24 (upd ((va_up f 13 (upd (f 13) (Int32.toNatClampNeg (v 30)) v_15)) 24) (Int32.toNatClampNeg (v 31)) (107 : Int32))) 25) (Int32.toNatClampNeg (v 31)) x5_33)) := WL.upf 25 hL (by decide)
                    have hP : va_P G vwCl (WMs cy mo h (va_up v33 31 ((v 31) + 1)) nm33 (va_up (va_up (va_up f 13 (upd (f 13) (Int32.toNatClampNeg (v 30)) v_15)) 24 (upd ((va_up f 13 (upd (f 13) (Int32.toNatClampNeg (v 30)) v_15)) 24) (Int32.toNatClampNeg (v 31)) (107 : Int32))) 25 (upd ((va_up (va_up f 13 (upd (f 13) (Int32.toNatClampNeg (v 30)) v_15)) 24 (upd ((va_up f 13 (upd (f 13) (Int32.toNatClampNeg (v 30)) v_15)) 24) (Int32.toNatClampNeg (v 31)) (107 : Int32))) 25) (Int32.toNatClampNeg (v 31)) x5_33)) g) H := hP1
                    have hD : va_D A (WMs cy mo h (va_up v33 31 ((v 31) + 1)) nm33 (va_up (va_up (va_up f 13 (upd (f 13) (Int32.toNatClampNeg (v 30)) v_15)) 24 (upd ((va_up f 13 (upd (f 13) (Int32.toNatClampNeg (v 30)) v_15)) 24) (Int32.toNatClampNeg (v 31)) (107 : Int32))) 25 (upd ((va_up (va_up f 13 (upd (f 13) (Int32.toNatClampNeg (v 30)) v_15)) 24 (upd ((va_up f 13 (upd (f 13) (Int32.toNatClampNeg (v 30)) v_15)) 24) (Int32.toNatClampNeg (v 31)) (107 : Int32))) 25) (Int32.toNatClampNeg (v 31)) x5_33)) g) := hD1.weaken (fun _ _ _ h => hFc _ h)
                    clear hFc hk1 hz1 hP1 hD1 hw
                    refine lv_iconst (v := 0) hx hb dX12_unit_287 (by decide) ?_
                    refine W.widen (k := 0) (n := 0) (Nat.le_of_ble_eq_true rfl) (Nat.le_of_ble_eq_true rfl) ?_
                    exact W.zret (v := 0) hx hb hr rfl (fun t ht9 hW => ⟨⟨0, ((va_up v33 31 ((v 31) + 1)), nm33, (va_up (va_up (va_up f 13 (upd (f 13) (Int32.toNatClampNeg (v 30)) v_15)) 24 (upd ((va_up f 13 (upd (f 13) (Int32.toNatClampNeg (v 30)) v_15)) 24) (Int32.toNatClampNeg (v 31)) (107 : Int32))) 25 (upd ((va_up (va_up f 13 (upd (f 13) (Int32.toNatClampNeg (v 30)) v_15)) 24 (upd ((va_up f 13 (upd (f 13) (Int32.toNatClampNeg (v 30)) v_15)) 24) (Int32.toNatClampNeg (v 31)) (107 : Int32))) 25) (Int32.toNatClampNeg (v 31)) x5_33)), g), rfl, ⟨hv, hf, hR, hL, hV_0, hF_0, ⟨(by omega), (show (v33 7).toInt ≤ (v 3).toInt from by first | omega | (subst_vars; first | rfl | omega))⟩, (show 0 ≤ mz (v 3).toInt (v33 7).toInt (v33 8).toInt ∧ mz (v 3).toInt (v33 7).toInt (v33 8).toInt ≤ mz (v 3).toInt (v 7).toInt (v 8).toInt ∧ ((v33 4).toInt ≠ 0 ∨ mz (v 3).toInt (v33 7).toInt (v33 8).toInt < mz (v 3).toInt (v 7).toInt (v 8).toInt) from by omega), (show (v33 4).toInt = 0 → EI (0 : Int32).toInt (v 30).toInt Fz ((v 31) + 1).toInt (v33 33).toInt (v33 32).toInt ((upd (f 13) (Int32.toNatClampNeg (v 30)) v_15) (Int32.toNatClampNeg (v 30))).toInt (f 26) (f 27) (upd (f 24) (Int32.toNatClampNeg (v 31)) (107 : Int32)) (upd (f 25) (Int32.toNatClampNeg (v 31)) x5_33) from by rw [(show v33 33 = (v 33) from ((hV_33 33 (by decide)).trans ((xu_18V 33 (by decide)).trans (hV_5 33 (by decide))))), (show v33 32 = (v 32) from ((hV_33 32 (by decide)).trans ((xu_18V 32 (by decide)).trans (hV_5 32 (by decide)))))]; exact fun h9 => EI.cast (EI.leaf hE (by omega) (by omega) (by omega) (by unfold okc; omega)) (by omega) (by omega) (by omega) (by omega) (by omega)), (show OUT Fz (600 * (v 30).toInt + 600) (f 24) (f 25) (upd (f 24) (Int32.toNatClampNeg (v 31)) (107 : Int32)) (upd (f 25) (Int32.toNatClampNeg (v 31)) x5_33) from by exact OUT.w OUT.rf _ _ ⟨by rw [ow_tn]; omega, by rw [ow_tn]; omega⟩)⟩, ⟨by rw [ht9]; exact hP, hD⟩⟩, hS.F ht9⟩) hS.2.2 dX12_unit_288
                have hW_33 : FV [4, 5, 6, 7, 8, 9] v18 v18 := FV.rf
                refine W.widen (k := 0) (n := 0) (Nat.le_of_ble_eq_true rfl) (Nat.le_of_ble_eq_true rfl) ?_
                have jn_43 : ∀  (H : Heap) (locs : List Loc) (ls : Array Slot), (r_u_4.toInt = 105 ∨ r_u_4.toInt = 98 ∨ r_u_4.toInt = 101) → va_P G vwCl (WMs cy mo h v18 nm18 (va_up f 13 (upd (f 13) (Int32.toNatClampNeg (v 30)) v_15)) g) H → va_D A (WMs cy mo h v18 nm18 (va_up f 13 (upd (f 13) (Int32.toNatClampNeg (v 30)) v_15)) g) → va_S A s.heap H locs → lv_has ls 6 [(5, .int (v 9)), (4, .int r_u_4), (3, .int r_u_3), (2, .int y0_2), (1, .int y0_1), (0, .ref mo)] → W p l e (headSpec (.code yX12_unit cX12_unit 6 (some .boolean) :: TBg) ({ frames := 3, cells := 0, slots := 0, locals := 192 })).room s m ([.ref mo] : List Value).toArray below meth c H locs 0 0 (MQ below (va_Qi (fun (r : Int32) (u : (Nat → Int32) × Int64 × (Nat → Nat → Int32) × (Nat → Nat → Int64)) => MIv T u.1 ∧ MIf u.2.2.1 ∧ RI u.1 u.2.2.1 ∧ WL u.1 u.2.2.1 ∧ FV [4, 5, 6, 7, 8, 9, 31, 32, 33] v u.1 ∧ FF [13, 24, 25, 26, 27] f u.2.2.1 ∧ ((r.toInt = 0 ∨ r.toInt = 1) ∧ ((u.1 7).toInt ≤ (v 3).toInt)) ∧ (0 ≤ mz (v 3).toInt (u.1 7).toInt (u.1 8).toInt ∧ mz (v 3).toInt (u.1 7).toInt (u.1 8).toInt ≤ mz (v 3).toInt (v 7).toInt (v 8).toInt ∧ ((u.1 4).toInt ≠ 0 ∨ mz (v 3).toInt (u.1 7).toInt (u.1 8).toInt < mz (v 3).toInt (v 7).toInt (v 8).toInt)) ∧ ((u.1 4).toInt = 0 → EI r.toInt (v 30).toInt Fz (u.1 31).toInt (u.1 33).toInt (u.1 32).toInt (u.2.2.1 13 (Int32.toNatClampNeg (v 30))).toInt (u.2.2.1 26) (u.2.2.1 27) (u.2.2.1 24) (u.2.2.1 25)) ∧ (OUT Fz (600 * (v 30).toInt + 600) (f 24) (f 25) (u.2.2.1 24) (u.2.2.1 25))) (fun u t => Ex G A (WMs cy mo h u.1 u.2.1 u.2.2.1 u.2.2.2) t) A) ([.ref mo] : List Value).toArray s 0 0 A) (F0 m 223 ls []) := by
                  intro H locs ls qf43_0 hP hD hS hl
                  refine lv_aload_n hx hb dX12_unit_223 rfl (lv_at hl 5 rfl) ?_
                  have hFc := fr_new hS hA
                  refine va_calli (va_runV (As := []) (rest := []) ⟨hx, hb, hml, hown, ht⟩ (m_tuneHere l G cy _ mo h T v18 nm18 (va_up f 13 (upd (f 13) (Int32.toNatClampNeg (v 30)) v_15)) g   hv hf hR hL) (cwV 0 ht (gv k_260 k_261 k_262 k_61 k_259) rfl rfl rfl (by decide +kernel) ⟨Nat.le_of_ble_eq_true rfl, Nat.le_of_ble_eq_true rfl⟩) ⟨En.blind, va_recv hK hP (ci := 12) (q0 := 0) rfl rfl, fun U hU hW => ⟨rfl, En.of hU hW hP hK hD hN⟩⟩ rfl rfl hl.1 rfl (lv_room (Nat.le_of_ble_eq_true rfl)) dX12_unit_224 ⟨Nat.le_of_ble_eq_true rfl, Nat.le_of_ble_eq_true rfl⟩) hS (fun q _ h => hFc q h) hFc (fun r_u_44 u_44 t9 H locs ht9 hvm hw hB hz1 hk1 hS => ?_)
                  have hP := fr_keep hP hk1
                  have wu_44 := hw
                  clear hFc hk1 hz1 hB hw
                  have wu_44 : (-1 ≤ r_u_44.toInt ∧ r_u_44.toInt ≤ 13) ∧ (r_u_44.toInt < 0 ∨ (v18 8).toInt = 2) := wu_44
                  refine lv_istore (lv' := [(5, .int r_u_44), (4, .int r_u_4), (3, .int r_u_3), (2, .int y0_2), (1, .int y0_1), (0, .ref mo)]) hx hb dX12_unit_227 hl (by decide) rfl (fun ls hl => ?_)
                  refine lv_aload_n hx hb dX12_unit_229 rfl (lv_at hl 5 rfl) ?_
                  refine mg_8 hx hb ht hown hK hP dX12_unit_230 ?_
                  refine lv_iconst (v := 2) hx hb dX12_unit_233 (by decide) ?_
                  refine lv_icmp_eq (tgt := 244) hx hb dX12_unit_234 (by decide) (fun c_45 => ?_) (fun c_45 => ?_)
                  · have q_46 : (v18 8).toInt = (2 : Int32).toInt := (ow_eq _ _).mp c_45
                    refine lv_iload hx hb dX12_unit_244 (lv_at hl 0 rfl) ?_
                    refine lv_if_ge (tgt := 258) hx hb dX12_unit_246 (by decide) (fun c_47 => ?_) (fun c_47 => ?_)
                    · have q_48 : (0 : Int32).toInt ≤ r_u_44.toInt := (ow_le _ _).mp c_47
                      refine lv_aload_n hx hb dX12_unit_258 rfl (lv_at hl 5 rfl) ?_
                      have hFc := fr_new hS hA
                      refine va_calli (va_runV (As := []) (rest := []) ⟨hx, hb, hml, hown, ht⟩ (m_isGood l G cy _ mo h T v18 nm18 (va_up f 13 (upd (f 13) (Int32.toNatClampNeg (v 30)) v_15)) g   hv hf hR hL) (cwV 0 ht (gv k_224 k_225 k_226 k_61 k_223) rfl rfl rfl (by decide +kernel) ⟨Nat.le_of_ble_eq_true rfl, Nat.le_of_ble_eq_true rfl⟩) ⟨En.blind, va_recv hK hP (ci := 12) (q0 := 0) rfl rfl, fun U hU hW => ⟨rfl, En.of hU hW hP hK hD hN⟩⟩ rfl rfl hl.1 rfl (lv_room (Nat.le_of_ble_eq_true rfl)) dX12_unit_259 ⟨Nat.le_of_ble_eq_true rfl, Nat.le_of_ble_eq_true rfl⟩) hS (fun q _ h => hFc q h) hFc (fun r_u_49 u_49 t9 H locs ht9 hvm hw hB hz1 hk1 hS => ?_)
                      have hP := fr_keep hP hk1
                      have wu_49 := hw
                      clear hFc hk1 hz1 hB hw
                      have wu_49 : (r_u_49.toInt = 0 ∨ r_u_49.toInt = 1) ∧ ((r_u_49.toInt = 1 ∧ (v5 4).toInt = 0) ∨ (r_u_49.toInt = 0 ∧ (v5 4).toInt ≠ 0)) := by
                        have h9 : (r_u_49.toInt = 0 ∨ r_u_49.toInt = 1) ∧ ((r_u_49.toInt = 1 ∧ (v18 4).toInt = 0) ∨ (r_u_49.toInt = 0 ∧ (v18 4).toInt ≠ 0)) := wu_49
                        rw [(show v18 4 = (v5 4) from (xu_18V 4 (by decide)))] at h9
                        exact h9
                      refine lv_if_eq (tgt := 269) hx hb dX12_unit_262 (by decide) (fun c_50 => ?_) (fun c_50 => ?_)
                      · have q_51 : r_u_49.toInt = (0 : Int32).toInt := (ow_eq _ _).mp c_50
                        refine W.widen (k := 0) (n := 0) (Nat.le_of_ble_eq_true rfl) (Nat.le_of_ble_eq_true rfl) ?_
                        exact jn_33 r_u_44 v18 nm18 _ _ _ hv hW_33 (show (v18 7).toInt ≤ (v 3).toInt ∧ 0 ≤ mz (v 3).toInt (v18 7).toInt (v18 8).toInt ∧ mz (v 3).toInt (v18 7).toInt (v18 8).toInt < mz (v 3).toInt (v 7).toInt (v 8).toInt from by omega) (show (v18 4).toInt ≠ 0 ∨ (¬ r_u_4.toInt = 105 ∧ ¬ r_u_4.toInt = 98 ∧ ¬ r_u_4.toInt = 101) ∨ (0 ≤ r_u_44.toInt ∧ r_u_44.toInt ≤ 13) from by rw [(show v18 4 = (v5 4) from (xu_18V 4 (by decide)))]; omega) hP hD hS (lv_sub hl [0, 1, 2, 3, 4, 5] rfl)
                      · have q_52 : ¬ r_u_49.toInt = (0 : Int32).toInt := by have := (not_congr (ow_eq _ _)).mp c_50; omega
                        refine lv_aload_n hx hb dX12_unit_265 rfl (lv_at hl 5 rfl) ?_
                        have hFc := fr_free hD hS hA
                        refine va_callv (va_runV (As := []) (rest := []) ⟨hx, hb, hml, hown, ht⟩ (m_goOn l G cy _ mo h T v18 nm18 (va_up f 13 (upd (f 13) (Int32.toNatClampNeg (v 30)) v_15)) g   hv hf hR hL (show (v18 7).toInt ≤ (v18 3).toInt from by rw [(show v18 3 = (v 3) from ((xu_18V 3 (by decide)).trans (hV_5 3 (by decide))))]; omega)) (cwV 0 ht (gv k_232 k_233 k_234 k_61 k_231) rfl rfl rfl (by decide +kernel) ⟨Nat.le_of_ble_eq_true rfl, Nat.le_of_ble_eq_true rfl⟩) ⟨En.blind, va_recv hK hP (ci := 12) (q0 := 0) rfl rfl, fun U hU hW => ⟨rfl, En.of hU hW hP hK hD hN⟩⟩ rfl rfl hl.1 rfl (lv_room (Nat.le_of_ble_eq_true rfl)) dX12_unit_266 ⟨Nat.le_of_ble_eq_true rfl, Nat.le_of_ble_eq_true rfl⟩) hS (fun q _ h => hFc q h) hFc (fun u_53 t9 H locs ht9 hvm hw hB hz1 hk1 hS => ?_)
                        obtain ⟨v53, nm53⟩ := u_53
                        obtain ⟨hP1, hD1⟩ := hB
                        rw [ht9] at hP1
                        obtain ⟨hv, xu_53V, wu_53, xu_53_M⟩ := hw
                        dsimp only at hv xu_53V wu_53 xu_53_M
                        have hP : va_P G vwCl (WMs cy mo h v53 nm53 (va_up f 13 (upd (f 13) (Int32.toNatClampNeg (v 30)) v_15)) g) H := hP1
                        have hD : va_D A (WMs cy mo h v53 nm53 (va_up f 13 (upd (f 13) (Int32.toNatClampNeg (v 30)) v_15)) g) := hD1.weaken (fun _ _ _ h => hFc _ h)
                        have hR : RI v53 (va_up f 13 (upd (f 13) (Int32.toNatClampNeg (v 30)) v_15)) := RI.fv hR xu_53V (by decide)
                        have hL : WL v53 (va_up f 13 (upd (f 13) (Int32.toNatClampNeg (v 30)) v_15)) := WL.fv hL xu_53V (by decide) (by decide)
                        have hV_0 := FV.tr hV_0 xu_53V (by decide)
                        have hW_33 := FV.tr hW_33 xu_53V (by decide)
                        clear hFc hk1 hz1 hP1 hD1
                        have wu_53 : ((v53 7).toInt ≤ (v 3).toInt ∧ (((v53 8).toInt = 0 ∧ (v53 7).toInt = (v 3).toInt) ∨ ((v53 8).toInt ≠ 0 ∧ (v18 7).toInt < (v53 7).toInt))) := by
                          have h9 : ((v53 7).toInt ≤ (v18 3).toInt ∧ (((v53 8).toInt = 0 ∧ (v53 7).toInt = (v18 3).toInt) ∨ ((v53 8).toInt ≠ 0 ∧ (v18 7).toInt < (v53 7).toInt))) := wu_53
                          rw [(show v18 3 = (v 3) from ((xu_18V 3 (by decide)).trans (hV_5 3 (by decide))))] at h9
                          exact h9
                        have xu_53_M : 0 ≤ mz (v 3).toInt (v53 7).toInt (v53 8).toInt ∧ mz (v 3).toInt (v53 7).toInt (v53 8).toInt ≤ mz (v 3).toInt (v18 7).toInt (v18 8).toInt ∧ ((v18 8).toInt = 0 ∨ mz (v 3).toInt (v53 7).toInt (v53 8).toInt < mz (v 3).toInt (v18 7).toInt (v18 8).toInt) := by
                          have h9 : 0 ≤ mz (v18 3).toInt (v53 7).toInt (v53 8).toInt ∧ mz (v18 3).toInt (v53 7).toInt (v53 8).toInt ≤ mz (v18 3).toInt (v18 7).toInt (v18 8).toInt ∧ ((v18 8).toInt = 0 ∨ mz (v18 3).toInt (v53 7).toInt (v53 8).toInt < mz (v18 3).toInt (v18 7).toInt (v18 8).toInt) := xu_53_M
                          rw [(show v18 3 = (v 3) from ((xu_18V 3 (by decide)).trans (hV_5 3 (by decide))))] at h9
                          exact h9
                        refine W.widen (k := 0) (n := 0) (Nat.le_of_ble_eq_true rfl) (Nat.le_of_ble_eq_true rfl) ?_
                        exact jn_33 r_u_44 v53 nm53 _ _ _ hv hW_33 (show (v53 7).toInt ≤ (v 3).toInt ∧ 0 ≤ mz (v 3).toInt (v53 7).toInt (v53 8).toInt ∧ mz (v 3).toInt (v53 7).toInt (v53 8).toInt < mz (v 3).toInt (v 7).toInt (v 8).toInt from by omega) (show (v53 4).toInt ≠ 0 ∨ (¬ r_u_4.toInt = 105 ∧ ¬ r_u_4.toInt = 98 ∧ ¬ r_u_4.toInt = 101) ∨ (0 ≤ r_u_44.toInt ∧ r_u_44.toInt ≤ 13) from by rw [(show v53 4 = (v5 4) from ((xu_53V 4 (by decide)).trans (xu_18V 4 (by decide))))]; omega) hP hD hS (lv_sub hl [0, 1, 2, 3, 4, 5] rfl)
                    · have q_54 : r_u_44.toInt < (0 : Int32).toInt := by have := (not_congr (ow_le _ _)).mp c_47; omega
                      refine lv_aload_n hx hb dX12_unit_249 rfl (lv_at hl 5 rfl) ?_
                      refine lv_iconst (v := 5) hx hb dX12_unit_250 (by decide) ?_
                      refine lv_aload_n hx hb dX12_unit_251 rfl (lv_at hl 5 rfl) ?_
                      refine mg_6 hx hb ht hown hK hP dX12_unit_252 ?_
                      have q_55 : 0 ≤ (v18 6).toInt ∧ (v18 6).toInt ≤ 1700 := hv 6
                      have hFc := fr_free hD hS hA
                      refine va_callv (va_runV (As := [.int 5, .int (v18 6)]) (rest := []) ⟨hx, hb, hml, hown, ht⟩ (m_fails l G cy _ mo h T v18 nm18 (va_up f 13 (upd (f 13) (Int32.toNatClampNeg (v 30)) v_15)) g (5) (v18 6)  hv hf hR hL (by omega)) (cwV 2 ht (gv k_211 k_212 k_213 k_61 k_210) rfl rfl rfl (by decide +kernel) ⟨Nat.le_of_ble_eq_true rfl, Nat.le_of_ble_eq_true rfl⟩) ⟨En.blind, va_recv hK hP (ci := 12) (q0 := 0) rfl rfl, fun U hU hW => ⟨rfl, En.of hU hW hP hK hD hN⟩⟩ rfl rfl hl.1 rfl (lv_room (Nat.le_of_ble_eq_true rfl)) dX12_unit_255 ⟨Nat.le_of_ble_eq_true rfl, Nat.le_of_ble_eq_true rfl⟩) hS (fun q _ h => hFc q h) hFc (fun u_56 t9 H locs ht9 hvm hw hB hz1 hk1 hS => ?_)
                      obtain ⟨v56, nm56⟩ := u_56
                      obtain ⟨hP1, hD1⟩ := hB
                      rw [ht9] at hP1
                      obtain ⟨hv, xu_56V, wu_56⟩ := hw
                      dsimp only at hv xu_56V wu_56
                      have hP : va_P G vwCl (WMs cy mo h v56 nm56 (va_up f 13 (upd (f 13) (Int32.toNatClampNeg (v 30)) v_15)) g) H := hP1
                      have hD : va_D A (WMs cy mo h v56 nm56 (va_up f 13 (upd (f 13) (Int32.toNatClampNeg (v 30)) v_15)) g) := hD1.weaken (fun _ _ _ h => hFc _ h)
                      have hR : RI v56 (va_up f 13 (upd (f 13) (Int32.toNatClampNeg (v 30)) v_15)) := RI.fv hR xu_56V (by decide)
                      have hL : WL v56 (va_up f 13 (upd (f 13) (Int32.toNatClampNeg (v 30)) v_15)) := WL.fv hL xu_56V (by decide) (by decide)
                      have hV_0 := FV.tr hV_0 xu_56V (by decide)
                      have hW_33 := FV.tr hW_33 xu_56V (by decide)
                      clear hFc hk1 hz1 hP1 hD1
                      have wu_56 : (1 ≤ (v56 4).toInt) := wu_56
                      refine lv_aload_n hx hb dX12_unit_258 rfl (lv_at hl 5 rfl) ?_
                      have hFc := fr_new hS hA
                      refine va_calli (va_runV (As := []) (rest := []) ⟨hx, hb, hml, hown, ht⟩ (m_isGood l G cy _ mo h T v56 nm56 (va_up f 13 (upd (f 13) (Int32.toNatClampNeg (v 30)) v_15)) g   hv hf hR hL) (cwV 0 ht (gv k_224 k_225 k_226 k_61 k_223) rfl rfl rfl (by decide +kernel) ⟨Nat.le_of_ble_eq_true rfl, Nat.le_of_ble_eq_true rfl⟩) ⟨En.blind, va_recv hK hP (ci := 12) (q0 := 0) rfl rfl, fun U hU hW => ⟨rfl, En.of hU hW hP hK hD hN⟩⟩ rfl rfl hl.1 rfl (lv_room (Nat.le_of_ble_eq_true rfl)) dX12_unit_259 ⟨Nat.le_of_ble_eq_true rfl, Nat.le_of_ble_eq_true rfl⟩) hS (fun q _ h => hFc q h) hFc (fun r_u_57 u_57 t9 H locs ht9 hvm hw hB hz1 hk1 hS => ?_)
                      have hP := fr_keep hP hk1
                      have wu_57 := hw
                      clear hFc hk1 hz1 hB hw
                      have wu_57 : (r_u_57.toInt = 0 ∨ r_u_57.toInt = 1) ∧ ((r_u_57.toInt = 1 ∧ (v56 4).toInt = 0) ∨ (r_u_57.toInt = 0 ∧ (v56 4).toInt ≠ 0)) := wu_57
                      refine lv_if_eq (tgt := 269) hx hb dX12_unit_262 (by decide) (fun c_58 => ?_) (fun c_58 => ?_)
                      · have q_59 : r_u_57.toInt = (0 : Int32).toInt := (ow_eq _ _).mp c_58
                        refine W.widen (k := 0) (n := 0) (Nat.le_of_ble_eq_true rfl) (Nat.le_of_ble_eq_true rfl) ?_
                        exact jn_33 r_u_44 v56 nm56 _ _ _ hv hW_33 (show (v56 7).toInt ≤ (v 3).toInt ∧ 0 ≤ mz (v 3).toInt (v56 7).toInt (v56 8).toInt ∧ mz (v 3).toInt (v56 7).toInt (v56 8).toInt < mz (v 3).toInt (v 7).toInt (v 8).toInt from by rw [(show v56 7 = (v18 7) from (xu_56V 7 (by decide))), (show v56 8 = (v18 8) from (xu_56V 8 (by decide)))]; omega) (show (v56 4).toInt ≠ 0 ∨ (¬ r_u_4.toInt = 105 ∧ ¬ r_u_4.toInt = 98 ∧ ¬ r_u_4.toInt = 101) ∨ (0 ≤ r_u_44.toInt ∧ r_u_44.toInt ≤ 13) from by omega) hP hD hS (lv_sub hl [0, 1, 2, 3, 4, 5] rfl)
                      · have q_60 : ¬ r_u_57.toInt = (0 : Int32).toInt := by have := (not_congr (ow_eq _ _)).mp c_58; omega
                        refine lv_aload_n hx hb dX12_unit_265 rfl (lv_at hl 5 rfl) ?_
                        have hFc := fr_free hD hS hA
                        refine va_callv (va_runV (As := []) (rest := []) ⟨hx, hb, hml, hown, ht⟩ (m_goOn l G cy _ mo h T v56 nm56 (va_up f 13 (upd (f 13) (Int32.toNatClampNeg (v 30)) v_15)) g   hv hf hR hL (show (v56 7).toInt ≤ (v56 3).toInt from by rw [(show v56 7 = (v18 7) from (xu_56V 7 (by decide))), (show v56 3 = (v 3) from ((xu_56V 3 (by decide)).trans ((xu_18V 3 (by decide)).trans (hV_5 3 (by decide)))))]; omega)) (cwV 0 ht (gv k_232 k_233 k_234 k_61 k_231) rfl rfl rfl (by decide +kernel) ⟨Nat.le_of_ble_eq_true rfl, Nat.le_of_ble_eq_true rfl⟩) ⟨En.blind, va_recv hK hP (ci := 12) (q0 := 0) rfl rfl, fun U hU hW => ⟨rfl, En.of hU hW hP hK hD hN⟩⟩ rfl rfl hl.1 rfl (lv_room (Nat.le_of_ble_eq_true rfl)) dX12_unit_266 ⟨Nat.le_of_ble_eq_true rfl, Nat.le_of_ble_eq_true rfl⟩) hS (fun q _ h => hFc q h) hFc (fun u_61 t9 H locs ht9 hvm hw hB hz1 hk1 hS => ?_)
                        obtain ⟨v61, nm61⟩ := u_61
                        obtain ⟨hP1, hD1⟩ := hB
                        rw [ht9] at hP1
                        obtain ⟨hv, xu_61V, wu_61, xu_61_M⟩ := hw
                        dsimp only at hv xu_61V wu_61 xu_61_M
                        have hP : va_P G vwCl (WMs cy mo h v61 nm61 (va_up f 13 (upd (f 13) (Int32.toNatClampNeg (v 30)) v_15)) g) H := hP1
                        have hD : va_D A (WMs cy mo h v61 nm61 (va_up f 13 (upd (f 13) (Int32.toNatClampNeg (v 30)) v_15)) g) := hD1.weaken (fun _ _ _ h => hFc _ h)
                        have hR : RI v61 (va_up f 13 (upd (f 13) (Int32.toNatClampNeg (v 30)) v_15)) := RI.fv hR xu_61V (by decide)
                        have hL : WL v61 (va_up f 13 (upd (f 13) (Int32.toNatClampNeg (v 30)) v_15)) := WL.fv hL xu_61V (by decide) (by decide)
                        have hV_0 := FV.tr hV_0 xu_61V (by decide)
                        have hW_33 := FV.tr hW_33 xu_61V (by decide)
                        clear hFc hk1 hz1 hP1 hD1
                        have wu_61 : ((v61 7).toInt ≤ (v 3).toInt ∧ (((v61 8).toInt = 0 ∧ (v61 7).toInt = (v 3).toInt) ∨ ((v61 8).toInt ≠ 0 ∧ (v18 7).toInt < (v61 7).toInt))) := by
                          have h9 : ((v61 7).toInt ≤ (v56 3).toInt ∧ (((v61 8).toInt = 0 ∧ (v61 7).toInt = (v56 3).toInt) ∨ ((v61 8).toInt ≠ 0 ∧ (v56 7).toInt < (v61 7).toInt))) := wu_61
                          rw [(show v56 3 = (v 3) from ((xu_56V 3 (by decide)).trans ((xu_18V 3 (by decide)).trans (hV_5 3 (by decide))))), (show v56 7 = (v18 7) from (xu_56V 7 (by decide)))] at h9
                          exact h9
                        have xu_61_M : 0 ≤ mz (v 3).toInt (v61 7).toInt (v61 8).toInt ∧ mz (v 3).toInt (v61 7).toInt (v61 8).toInt ≤ mz (v 3).toInt (v18 7).toInt (v18 8).toInt ∧ ((v18 8).toInt = 0 ∨ mz (v 3).toInt (v61 7).toInt (v61 8).toInt < mz (v 3).toInt (v18 7).toInt (v18 8).toInt) := by
                          have h9 : 0 ≤ mz (v56 3).toInt (v61 7).toInt (v61 8).toInt ∧ mz (v56 3).toInt (v61 7).toInt (v61 8).toInt ≤ mz (v56 3).toInt (v56 7).toInt (v56 8).toInt ∧ ((v56 8).toInt = 0 ∨ mz (v56 3).toInt (v61 7).toInt (v61 8).toInt < mz (v56 3).toInt (v56 7).toInt (v56 8).toInt) := xu_61_M
                          rw [(show v56 3 = (v 3) from ((xu_56V 3 (by decide)).trans ((xu_18V 3 (by decide)).trans (hV_5 3 (by decide))))), (show v56 7 = (v18 7) from (xu_56V 7 (by decide))), (show v56 8 = (v18 8) from (xu_56V 8 (by decide)))] at h9
                          exact h9
                        refine W.widen (k := 0) (n := 0) (Nat.le_of_ble_eq_true rfl) (Nat.le_of_ble_eq_true rfl) ?_
                        exact jn_33 r_u_44 v61 nm61 _ _ _ hv hW_33 (show (v61 7).toInt ≤ (v 3).toInt ∧ 0 ≤ mz (v 3).toInt (v61 7).toInt (v61 8).toInt ∧ mz (v 3).toInt (v61 7).toInt (v61 8).toInt < mz (v 3).toInt (v 7).toInt (v 8).toInt from by omega) (show (v61 4).toInt ≠ 0 ∨ (¬ r_u_4.toInt = 105 ∧ ¬ r_u_4.toInt = 98 ∧ ¬ r_u_4.toInt = 101) ∨ (0 ≤ r_u_44.toInt ∧ r_u_44.toInt ≤ 13) from by rw [(show v61 4 = (v56 4) from (xu_61V 4 (by decide)))]; omega) hP hD hS (lv_sub hl [0, 1, 2, 3, 4, 5] rfl)
                  · have q_62 : ¬ (v18 8).toInt = (2 : Int32).toInt := by have := (not_congr (ow_eq _ _)).mp c_45; omega
                    refine lv_aload_n hx hb dX12_unit_237 rfl (lv_at hl 5 rfl) ?_
                    have hFc := fr_free hD hS hA
                    refine va_callv (va_runV (As := []) (rest := []) ⟨hx, hb, hml, hown, ht⟩ (m_misplaced l G cy _ mo h T v18 nm18 (va_up f 13 (upd (f 13) (Int32.toNatClampNeg (v 30)) v_15)) g   hv hf hR hL) (cwV 0 ht (gv k_228 k_229 k_230 k_61 k_227) rfl rfl rfl (by decide +kernel) ⟨Nat.le_of_ble_eq_true rfl, Nat.le_of_ble_eq_true rfl⟩) ⟨En.blind, va_recv hK hP (ci := 12) (q0 := 0) rfl rfl, fun U hU hW => ⟨rfl, En.of hU hW hP hK hD hN⟩⟩ rfl rfl hl.1 rfl (lv_room (Nat.le_of_ble_eq_true rfl)) dX12_unit_238 ⟨Nat.le_of_ble_eq_true rfl, Nat.le_of_ble_eq_true rfl⟩) hS (fun q _ h => hFc q h) hFc (fun u_63 t9 H locs ht9 hvm hw hB hz1 hk1 hS => ?_)
                    obtain ⟨v63, nm63⟩ := u_63
                    obtain ⟨hP1, hD1⟩ := hB
                    rw [ht9] at hP1
                    obtain ⟨hv, xu_63V, wu_63⟩ := hw
                    dsimp only at hv xu_63V wu_63
                    have hP : va_P G vwCl (WMs cy mo h v63 nm63 (va_up f 13 (upd (f 13) (Int32.toNatClampNeg (v 30)) v_15)) g) H := hP1
                    have hD : va_D A (WMs cy mo h v63 nm63 (va_up f 13 (upd (f 13) (Int32.toNatClampNeg (v 30)) v_15)) g) := hD1.weaken (fun _ _ _ h => hFc _ h)
                    have hR : RI v63 (va_up f 13 (upd (f 13) (Int32.toNatClampNeg (v 30)) v_15)) := RI.fv hR xu_63V (by decide)
                    have hL : WL v63 (va_up f 13 (upd (f 13) (Int32.toNatClampNeg (v 30)) v_15)) := WL.fv hL xu_63V (by decide) (by decide)
                    have hV_0 := FV.tr hV_0 xu_63V (by decide)
                    have hW_33 := FV.tr hW_33 xu_63V (by decide)
                    clear hFc hk1 hz1 hP1 hD1
                    have wu_63 : (1 ≤ (v63 4).toInt) := wu_63
                    refine lv_goto (tgt := 258) hx hb dX12_unit_241 (by decide) ?_
                    refine lv_aload_n hx hb dX12_unit_258 rfl (lv_at hl 5 rfl) ?_
                    have hFc := fr_new hS hA
                    refine va_calli (va_runV (As := []) (rest := []) ⟨hx, hb, hml, hown, ht⟩ (m_isGood l G cy _ mo h T v63 nm63 (va_up f 13 (upd (f 13) (Int32.toNatClampNeg (v 30)) v_15)) g   hv hf hR hL) (cwV 0 ht (gv k_224 k_225 k_226 k_61 k_223) rfl rfl rfl (by decide +kernel) ⟨Nat.le_of_ble_eq_true rfl, Nat.le_of_ble_eq_true rfl⟩) ⟨En.blind, va_recv hK hP (ci := 12) (q0 := 0) rfl rfl, fun U hU hW => ⟨rfl, En.of hU hW hP hK hD hN⟩⟩ rfl rfl hl.1 rfl (lv_room (Nat.le_of_ble_eq_true rfl)) dX12_unit_259 ⟨Nat.le_of_ble_eq_true rfl, Nat.le_of_ble_eq_true rfl⟩) hS (fun q _ h => hFc q h) hFc (fun r_u_64 u_64 t9 H locs ht9 hvm hw hB hz1 hk1 hS => ?_)
                    have hP := fr_keep hP hk1
                    have wu_64 := hw
                    clear hFc hk1 hz1 hB hw
                    have wu_64 : (r_u_64.toInt = 0 ∨ r_u_64.toInt = 1) ∧ ((r_u_64.toInt = 1 ∧ (v63 4).toInt = 0) ∨ (r_u_64.toInt = 0 ∧ (v63 4).toInt ≠ 0)) := wu_64
                    refine lv_if_eq (tgt := 269) hx hb dX12_unit_262 (by decide) (fun c_65 => ?_) (fun c_65 => ?_)
                    · have q_66 : r_u_64.toInt = (0 : Int32).toInt := (ow_eq _ _).mp c_65
                      refine W.widen (k := 0) (n := 0) (Nat.le_of_ble_eq_true rfl) (Nat.le_of_ble_eq_true rfl) ?_
                      exact jn_33 r_u_44 v63 nm63 _ _ _ hv hW_33 (show (v63 7).toInt ≤ (v 3).toInt ∧ 0 ≤ mz (v 3).toInt (v63 7).toInt (v63 8).toInt ∧ mz (v 3).toInt (v63 7).toInt (v63 8).toInt < mz (v 3).toInt (v 7).toInt (v 8).toInt from by rw [(show v63 7 = (v18 7) from (xu_63V 7 (by decide))), (show v63 8 = (v18 8) from (xu_63V 8 (by decide)))]; omega) (show (v63 4).toInt ≠ 0 ∨ (¬ r_u_4.toInt = 105 ∧ ¬ r_u_4.toInt = 98 ∧ ¬ r_u_4.toInt = 101) ∨ (0 ≤ r_u_44.toInt ∧ r_u_44.toInt ≤ 13) from by omega) hP hD hS (lv_sub hl [0, 1, 2, 3, 4, 5] rfl)
                    · have q_67 : ¬ r_u_64.toInt = (0 : Int32).toInt := by have := (not_congr (ow_eq _ _)).mp c_65; omega
                      refine lv_aload_n hx hb dX12_unit_265 rfl (lv_at hl 5 rfl) ?_
                      have hFc := fr_free hD hS hA
                      refine va_callv (va_runV (As := []) (rest := []) ⟨hx, hb, hml, hown, ht⟩ (m_goOn l G cy _ mo h T v63 nm63 (va_up f 13 (upd (f 13) (Int32.toNatClampNeg (v 30)) v_15)) g   hv hf hR hL (show (v63 7).toInt ≤ (v63 3).toInt from by rw [(show v63 7 = (v18 7) from (xu_63V 7 (by decide))), (show v63 3 = (v 3) from ((xu_63V 3 (by decide)).trans ((xu_18V 3 (by decide)).trans (hV_5 3 (by decide)))))]; omega)) (cwV 0 ht (gv k_232 k_233 k_234 k_61 k_231) rfl rfl rfl (by decide +kernel) ⟨Nat.le_of_ble_eq_true rfl, Nat.le_of_ble_eq_true rfl⟩) ⟨En.blind, va_recv hK hP (ci := 12) (q0 := 0) rfl rfl, fun U hU hW => ⟨rfl, En.of hU hW hP hK hD hN⟩⟩ rfl rfl hl.1 rfl (lv_room (Nat.le_of_ble_eq_true rfl)) dX12_unit_266 ⟨Nat.le_of_ble_eq_true rfl, Nat.le_of_ble_eq_true rfl⟩) hS (fun q _ h => hFc q h) hFc (fun u_68 t9 H locs ht9 hvm hw hB hz1 hk1 hS => ?_)
                      obtain ⟨v68, nm68⟩ := u_68
                      obtain ⟨hP1, hD1⟩ := hB
                      rw [ht9] at hP1
                      obtain ⟨hv, xu_68V, wu_68, xu_68_M⟩ := hw
                      dsimp only at hv xu_68V wu_68 xu_68_M
                      have hP : va_P G vwCl (WMs cy mo h v68 nm68 (va_up f 13 (upd (f 13) (Int32.toNatClampNeg (v 30)) v_15)) g) H := hP1
                      have hD : va_D A (WMs cy mo h v68 nm68 (va_up f 13 (upd (f 13) (Int32.toNatClampNeg (v 30)) v_15)) g) := hD1.weaken (fun _ _ _ h => hFc _ h)
                      have hR : RI v68 (va_up f 13 (upd (f 13) (Int32.toNatClampNeg (v 30)) v_15)) := RI.fv hR xu_68V (by decide)
                      have hL : WL v68 (va_up f 13 (upd (f 13) (Int32.toNatClampNeg (v 30)) v_15)) := WL.fv hL xu_68V (by decide) (by decide)
                      have hV_0 := FV.tr hV_0 xu_68V (by decide)
                      have hW_33 := FV.tr hW_33 xu_68V (by decide)
                      clear hFc hk1 hz1 hP1 hD1
                      have wu_68 : ((v68 7).toInt ≤ (v 3).toInt ∧ (((v68 8).toInt = 0 ∧ (v68 7).toInt = (v 3).toInt) ∨ ((v68 8).toInt ≠ 0 ∧ (v18 7).toInt < (v68 7).toInt))) := by
                        have h9 : ((v68 7).toInt ≤ (v63 3).toInt ∧ (((v68 8).toInt = 0 ∧ (v68 7).toInt = (v63 3).toInt) ∨ ((v68 8).toInt ≠ 0 ∧ (v63 7).toInt < (v68 7).toInt))) := wu_68
                        rw [(show v63 3 = (v 3) from ((xu_63V 3 (by decide)).trans ((xu_18V 3 (by decide)).trans (hV_5 3 (by decide))))), (show v63 7 = (v18 7) from (xu_63V 7 (by decide)))] at h9
                        exact h9
                      have xu_68_M : 0 ≤ mz (v 3).toInt (v68 7).toInt (v68 8).toInt ∧ mz (v 3).toInt (v68 7).toInt (v68 8).toInt ≤ mz (v 3).toInt (v18 7).toInt (v18 8).toInt ∧ ((v18 8).toInt = 0 ∨ mz (v 3).toInt (v68 7).toInt (v68 8).toInt < mz (v 3).toInt (v18 7).toInt (v18 8).toInt) := by
                        have h9 : 0 ≤ mz (v63 3).toInt (v68 7).toInt (v68 8).toInt ∧ mz (v63 3).toInt (v68 7).toInt (v68 8).toInt ≤ mz (v63 3).toInt (v63 7).toInt (v63 8).toInt ∧ ((v63 8).toInt = 0 ∨ mz (v63 3).toInt (v68 7).toInt (v68 8).toInt < mz (v63 3).toInt (v63 7).toInt (v63 8).toInt) := xu_68_M
                        rw [(show v63 3 = (v 3) from ((xu_63V 3 (by decide)).trans ((xu_18V 3 (by decide)).trans (hV_5 3 (by decide))))), (show v63 7 = (v18 7) from (xu_63V 7 (by decide))), (show v63 8 = (v18 8) from (xu_63V 8 (by decide)))] at h9
                        exact h9
                      refine W.widen (k := 0) (n := 0) (Nat.le_of_ble_eq_true rfl) (Nat.le_of_ble_eq_true rfl) ?_
                      exact jn_33 r_u_44 v68 nm68 _ _ _ hv hW_33 (show (v68 7).toInt ≤ (v 3).toInt ∧ 0 ≤ mz (v 3).toInt (v68 7).toInt (v68 8).toInt ∧ mz (v 3).toInt (v68 7).toInt (v68 8).toInt < mz (v 3).toInt (v 7).toInt (v 8).toInt from by omega) (show (v68 4).toInt ≠ 0 ∨ (¬ r_u_4.toInt = 105 ∧ ¬ r_u_4.toInt = 98 ∧ ¬ r_u_4.toInt = 101) ∨ (0 ≤ r_u_44.toInt ∧ r_u_44.toInt ≤ 13) from by rw [(show v68 4 = (v63 4) from (xu_68V 4 (by decide)))]; omega) hP hD hS (lv_sub hl [0, 1, 2, 3, 4, 5] rfl)
                refine lv_iload hx hb dX12_unit_202 (lv_at hl 1 rfl) ?_
                refine lv_bipush (v := 105) hx hb dX12_unit_204 (by decide) ?_
                refine lv_icmp_eq (tgt := 223) hx hb dX12_unit_206 (by decide) (fun c_69 => ?_) (fun c_69 => ?_)
                · have q_70 : r_u_4.toInt = (105 : Int32).toInt := (ow_eq _ _).mp c_69
                  refine W.widen (k := 0) (n := 0) (Nat.le_of_ble_eq_true rfl) (Nat.le_of_ble_eq_true rfl) ?_
                  exact jn_43 _ _ _ (by omega) hP hD hS (lv_sub hl [0, 1, 2, 3, 4, 5] rfl)
                · have q_71 : ¬ r_u_4.toInt = (105 : Int32).toInt := by have := (not_congr (ow_eq _ _)).mp c_69; omega
                  refine lv_iload hx hb dX12_unit_209 (lv_at hl 1 rfl) ?_
                  refine lv_bipush (v := 98) hx hb dX12_unit_211 (by decide) ?_
                  refine lv_icmp_eq (tgt := 223) hx hb dX12_unit_213 (by decide) (fun c_72 => ?_) (fun c_72 => ?_)
                  · have q_73 : r_u_4.toInt = (98 : Int32).toInt := (ow_eq _ _).mp c_72
                    refine W.widen (k := 0) (n := 0) (Nat.le_of_ble_eq_true rfl) (Nat.le_of_ble_eq_true rfl) ?_
                    exact jn_43 _ _ _ (by omega) hP hD hS (lv_sub hl [0, 1, 2, 3, 4, 5] rfl)
                  · have q_74 : ¬ r_u_4.toInt = (98 : Int32).toInt := by have := (not_congr (ow_eq _ _)).mp c_72; omega
                    refine lv_iload hx hb dX12_unit_216 (lv_at hl 1 rfl) ?_
                    refine lv_bipush (v := 101) hx hb dX12_unit_218 (by decide) ?_
                    refine lv_icmp_ne (tgt := 269) hx hb dX12_unit_220 (by decide) (fun c_75 => ?_) (fun c_75 => ?_)
                    · have q_76 : ¬ r_u_4.toInt = (101 : Int32).toInt := by have := (not_congr (ow_eq _ _)).mp c_75; omega
                      refine W.widen (k := 0) (n := 0) (Nat.le_of_ble_eq_true rfl) (Nat.le_of_ble_eq_true rfl) ?_
                      exact jn_33 (v 9) v18 nm18 _ _ _ hv hW_33 (show (v18 7).toInt ≤ (v 3).toInt ∧ 0 ≤ mz (v 3).toInt (v18 7).toInt (v18 8).toInt ∧ mz (v 3).toInt (v18 7).toInt (v18 8).toInt < mz (v 3).toInt (v 7).toInt (v 8).toInt from by omega) (show (v18 4).toInt ≠ 0 ∨ (¬ r_u_4.toInt = 105 ∧ ¬ r_u_4.toInt = 98 ∧ ¬ r_u_4.toInt = 101) ∨ (0 ≤ (v 9).toInt ∧ (v 9).toInt ≤ 13) from by rw [(show v18 4 = (v5 4) from (xu_18V 4 (by decide)))]; omega) hP hD hS (lv_sub hl [0, 1, 2, 3, 4, 5] rfl)
                    · have q_77 : r_u_4.toInt = (101 : Int32).toInt := (ow_eq _ _).mp c_75
                      refine W.widen (k := 0) (n := 0) (Nat.le_of_ble_eq_true rfl) (Nat.le_of_ble_eq_true rfl) ?_
                      exact jn_43 _ _ _ (by omega) hP hD hS (lv_sub hl [0, 1, 2, 3, 4, 5] rfl)
              · have q_78 : ¬ r_u_3.toInt = (0 : Int32).toInt := by have := (not_congr (ow_eq _ _)).mp c_31; omega
                refine lv_aload_n hx hb dX12_unit_174 rfl (lv_at hl 5 rfl) ?_
                refine lv_iload_n hx hb dX12_unit_175 rfl (lv_at hl 3 rfl) ?_
                refine lv_if_eq (tgt := 183) hx hb dX12_unit_176 (by decide) (fun c_79 => ?_) (fun c_79 => ?_)
                · have q_80 : y0_2.toInt = (0 : Int32).toInt := (ow_eq _ _).mp c_79
                  refine lv_bipush (v := 6) hx hb dX12_unit_183 (by decide) ?_
                  refine lv_bipush (v := 126) hx hb dX12_unit_185 (by decide) ?_
                  have hFc := fr_free hD hS hA
                  refine va_callv (va_runV (As := [.int 6, .int 126]) (rest := []) ⟨hx, hb, hml, hown, ht⟩ (m_pushE l G cy _ mo h T v18 nm18 (va_up f 13 (upd (f 13) (Int32.toNatClampNeg (v 30)) v_15)) g (6) (126) ((v 33)) hv hf hR hL ((xu_18V 33 (by decide)).trans (hV_5 33 (by decide))) (show 0 ≤ ((v18 33)).toInt ∧ ((v18 33)).toInt ≤ 119 from by rw [(show v18 33 = (v 33) from ((xu_18V 33 (by decide)).trans (hV_5 33 (by decide))))]; omega)) (cwV 2 ht (gv k_252 k_253 k_254 k_61 k_251) rfl rfl rfl (by decide +kernel) ⟨Nat.le_of_ble_eq_true rfl, Nat.le_of_ble_eq_true rfl⟩) ⟨En.blind, va_recv hK hP (ci := 12) (q0 := 0) rfl rfl, fun U hU hW => ⟨rfl, En.of hU hW hP hK hD hN⟩⟩ rfl rfl hl.1 rfl (lv_room (Nat.le_of_ble_eq_true rfl)) dX12_unit_187 ⟨Nat.le_of_ble_eq_true rfl, Nat.le_of_ble_eq_true rfl⟩) hS (fun q _ h => hFc q h) hFc (fun u_81 t9 H locs ht9 hvm hw hB hz1 hk1 hS => ?_)
                  obtain ⟨hP1, hD1⟩ := hB
                  rw [ht9] at hP1
                  have wu_81 := hw
                  have q_83 : ((v 33) + 1).toInt = (v 33).toInt + 1 := ow_add rfl (by omega) (by omega)
                  have hv := MIv.up 33 hv (show 0 ≤ ((v 33) + 1).toInt ∧ ((v 33) + 1).toInt ≤ 120 from by omega)
                  have hR : RI (va_up v18 33 ((v 33) + 1)) (va_up f 13 (upd (f 13) (Int32.toNatClampNeg (v 30)) v_15)) := RI.upv 33 hR (by decide)
                  have hL : WL (va_up v18 33 ((v 33) + 1)) (va_up f 13 (upd (f 13) (Int32.toNatClampNeg (v 30)) v_15)) := WL.upv 33 hL (by decide)
                  have hV_0 := FV.up hV_0 33 ((v 33) + 1) (by decide)
                  have hf := MIf.up 26 (i := (Int32.toNatClampNeg (v 33))) hf (ow_any (6 : Int32))
                  have hF_0 := FF.up hF_0 26 (upd ((va_up f 13 (upd (f 13) (Int32.toNatClampNeg (v 30)) v_15)) 26) (Int32.toNatClampNeg (v 33)) (6 : Int32)) (by decide)
                  have hR : RI (va_up v18 33 ((v 33) + 1)) (va_up (va_up f 13 (upd (f 13) (Int32.toNatClampNeg (v 30)) v_15)) 26 (upd ((va_up f 13 (upd (f 13) (Int32.toNatClampNeg (v 30)) v_15)) 26) (Int32.toNatClampNeg (v 33)) (6 : Int32))) := RI.up 26 hR (by decide)
                  have hL : WL (va_up v18 33 ((v 33) + 1)) (va_up (va_up f 13 (upd (f 13) (Int32.toNatClampNeg (v 30)) v_15)) 26 (upd ((va_up f 13 (upd (f 13) (Int32.toNatClampNeg (v 30)) v_15)) 26) (Int32.toNatClampNeg (v 33)) (6 : Int32))) := WL.upf 26 hL (by decide)
                  have hf := MIf.up 27 (i := (Int32.toNatClampNeg (v 33))) hf (ow_any (126 : Int32))
                  have hF_0 := FF.up hF_0 27 (upd ((va_up (va_up f 13 (upd (f 13) (Int32.toNatClampNeg (v 30)) v_15)) 26 (upd ((va_up f 13 (upd (f 13) (Int32.toNatClampNeg (v 30)) v_15)) 26) (Int32.toNatClampNeg (v 33)) (6 : Int32))) 27) (Int32.toNatClampNeg (v 33)) (126 : Int32)) (by decide)
                  have hR : RI (va_up v18 33 ((v 33) + 1)) (va_up (va_up (va_up f 13 (upd (f 13) (Int32.toNatClampNeg (v 30)) v_15)) 26 (upd ((va_up f 13 (upd (f 13) (Int32.toNatClampNeg (v 30)) v_15)) 26) (Int32.toNatClampNeg (v 33)) (6 : Int32))) 27 (upd ((va_up (va_up f 13 (upd (f 13) (Int32.toNatClampNeg (v 30)) v_15)) 26 (upd ((va_up f 13 (upd (f 13) (Int32.toNatClampNeg (v 30)) v_15)) 26) (Int32.toNatClampNeg (v 33)) (6 : Int32))) 27) (Int32.toNatClampNeg (v 33)) (126 : Int32))) := RI.up 27 hR (by decide)
                  have hL : WL (va_up v18 33 ((v 33) + 1)) (va_up (va_up (va_up f 13 (upd (f 13) (Int32.toNatClampNeg (v 30)) v_15)) 26 (upd ((va_up f 13 (upd (f 13) (Int32.toNatClampNeg (v 30)) v_15)) 26) (Int32.toNatClampNeg (v 33)) (6 : Int32))) 27 (upd ((va_up (va_up f 13 (upd (f 13) (Int32.toNatClampNeg (v 30)) v_15)) 26 (upd ((va_up f 13 (upd (f 13) (Int32.toNatClampNeg (v 30)) v_15)) 26) (Int32.toNatClampNeg (v 33)) (6 : Int32))) 27) (Int32.toNatClampNeg (v 33)) (126 : Int32))) := WL.upf 27 hL (by decide)
                  have hP : va_P G vwCl (WMs cy mo h (va_up v18 33 ((v 33) + 1)) nm18 (va_up (va_up (va_up f 13 (upd (f 13) (Int32.toNatClampNeg (v 30)) v_15)) 26 (upd ((va_up f 13 (upd (f 13) (Int32.toNatClampNeg (v 30)) v_15)) 26) (Int32.toNatClampNeg (v 33)) (6 : Int32))) 27 (upd ((va_up (va_up f 13 (upd (f 13) (Int32.toNatClampNeg (v 30)) v_15)) 26 (upd ((va_up f 13 (upd (f 13) (Int32.toNatClampNeg (v 30)) v_15)) 26) (Int32.toNatClampNeg (v 33)) (6 : Int32))) 27) (Int32.toNatClampNeg (v 33)) (126 : Int32))) g) H := hP1
                  have hD : va_D A (WMs cy mo h (va_up v18 33 ((v 33) + 1)) nm18 (va_up (va_up (va_up f 13 (upd (f 13) (Int32.toNatClampNeg (v 30)) v_15)) 26 (upd ((va_up f 13 (upd (f 13) (Int32.toNatClampNeg (v 30)) v_15)) 26) (Int32.toNatClampNeg (v 33)) (6 : Int32))) 27 (upd ((va_up (va_up f 13 (upd (f 13) (Int32.toNatClampNeg (v 30)) v_15)) 26 (upd ((va_up f 13 (upd (f 13) (Int32.toNatClampNeg (v 30)) v_15)) 26) (Int32.toNatClampNeg (v 33)) (6 : Int32))) 27) (Int32.toNatClampNeg (v 33)) (126 : Int32))) g) := hD1.weaken (fun _ _ _ h => hFc _ h)
                  clear hFc hk1 hz1 hP1 hD1 hw
                  refine lv_aload_n hx hb dX12_unit_190 rfl (lv_at hl 5 rfl) ?_
                  refine lv_dup hx hb dX12_unit_191 rfl ?_
                  refine mg_32 hx hb ht hown hK hP dX12_unit_192 ?_
                  refine ow_top (v 32) ((xu_18V 32 (by decide)).trans (hV_5 32 (by decide))) ?_
                  have q_84 : 0 ≤ (v 32).toInt ∧ (v 32).toInt ≤ 7 := by have h9 : (va_up v18 33 ((v 33) + 1)) 32 = (v 32) := ((xu_18V 32 (by decide)).trans (hV_5 32 (by decide))); rw [← h9]; exact hv 32
                  refine lv_iconst (v := 1) hx hb dX12_unit_195 (by decide) ?_
                  refine lv_iadd hx hb dX12_unit_196 ?_
                  refine lv_topi (fun v_85 ev_85 => ?_)
                  have q_86 : v_85.toInt = (v 32).toInt + (1 : Int32).toInt := ow_add ev_85 (by omega) (by omega)
                  refine mp_32 hx hb ht hown hK hP hD hS dX12_unit_197 (fun H locs hP hD hS => ?_)
                  have hv := MIv.up 32 hv (show 0 ≤ v_85.toInt ∧ v_85.toInt ≤ 7 from by omega)
                  have hL : WL (va_up (va_up v18 33 ((v 33) + 1)) 32 v_85) (va_up (va_up (va_up f 13 (upd (f 13) (Int32.toNatClampNeg (v 30)) v_15)) 26 (upd ((va_up f 13 (upd (f 13) (Int32.toNatClampNeg (v 30)) v_15)) 26) (Int32.toNatClampNeg (v 33)) (6 : Int32))) 27 (upd ((va_up (va_up f 13 (upd (f 13) (Int32.toNatClampNeg (v 30)) v_15)) 26 (upd ((va_up f 13 (upd (f 13) (Int32.toNatClampNeg (v 30)) v_15)) 26) (Int32.toNatClampNeg (v 33)) (6 : Int32))) 27) (Int32.toNatClampNeg (v 33)) (126 : Int32))) := WL.upv 32 hL (by decide)
                  have hR : RI (va_up (va_up v18 33 ((v 33) + 1)) 32 v_85) (va_up (va_up (va_up f 13 (upd (f 13) (Int32.toNatClampNeg (v 30)) v_15)) 26 (upd ((va_up f 13 (upd (f 13) (Int32.toNatClampNeg (v 30)) v_15)) 26) (Int32.toNatClampNeg (v 33)) (6 : Int32))) 27 (upd ((va_up (va_up f 13 (upd (f 13) (Int32.toNatClampNeg (v 30)) v_15)) 26 (upd ((va_up f 13 (upd (f 13) (Int32.toNatClampNeg (v 30)) v_15)) 26) (Int32.toNatClampNeg (v 33)) (6 : Int32))) 27) (Int32.toNatClampNeg (v 33)) (126 : Int32))) := RI.upv 32 hR (by decide)
                  have hV_0 := FV.up hV_0 32 v_85 (by decide)
                  refine lv_iconst (v := 1) hx hb dX12_unit_200 (by decide) ?_
                  refine W.widen (k := 0) (n := 0) (Nat.le_of_ble_eq_true rfl) (Nat.le_of_ble_eq_true rfl) ?_
                  exact W.zret (v := 1) hx hb hr rfl (fun t ht9 hW => ⟨⟨1, ((va_up (va_up v18 33 ((v 33) + 1)) 32 v_85), nm18, (va_up (va_up (va_up f 13 (upd (f 13) (Int32.toNatClampNeg (v 30)) v_15)) 26 (upd ((va_up f 13 (upd (f 13) (Int32.toNatClampNeg (v 30)) v_15)) 26) (Int32.toNatClampNeg (v 33)) (6 : Int32))) 27 (upd ((va_up (va_up f 13 (upd (f 13) (Int32.toNatClampNeg (v 30)) v_15)) 26 (upd ((va_up f 13 (upd (f 13) (Int32.toNatClampNeg (v 30)) v_15)) 26) (Int32.toNatClampNeg (v 33)) (6 : Int32))) 27) (Int32.toNatClampNeg (v 33)) (126 : Int32))), g), rfl, ⟨hv, hf, hR, hL, hV_0, hF_0, ⟨(by omega), (show (v18 7).toInt ≤ (v 3).toInt from by first | omega | (subst_vars; first | rfl | omega))⟩, (show 0 ≤ mz (v 3).toInt (v18 7).toInt (v18 8).toInt ∧ mz (v 3).toInt (v18 7).toInt (v18 8).toInt ≤ mz (v 3).toInt (v 7).toInt (v 8).toInt ∧ ((v18 4).toInt ≠ 0 ∨ mz (v 3).toInt (v18 7).toInt (v18 8).toInt < mz (v 3).toInt (v 7).toInt (v 8).toInt) from by rw [(show v18 4 = (v5 4) from (xu_18V 4 (by decide)))]; omega), (show (v18 4).toInt = 0 → EI (1 : Int32).toInt (v 30).toInt Fz (v18 31).toInt ((v 33) + 1).toInt v_85.toInt ((upd (f 13) (Int32.toNatClampNeg (v 30)) v_15) (Int32.toNatClampNeg (v 30))).toInt (upd (f 26) (Int32.toNatClampNeg (v 33)) (6 : Int32)) (upd (f 27) (Int32.toNatClampNeg (v 33)) (126 : Int32)) (f 24) (f 25) from by rw [(show v18 4 = (v5 4) from (xu_18V 4 (by decide))), (show v18 31 = (v 31) from ((xu_18V 31 (by decide)).trans (hV_5 31 (by decide))))]; exact fun h9 => EI.cast (EI.grow hE (by omega) (by omega) (by omega)) (by omega) (by omega) (by omega) (by omega) rfl), (show OUT Fz (600 * (v 30).toInt + 600) (f 24) (f 25) (f 24) (f 25) from by exact OUT.rf)⟩, ⟨by rw [ht9]; exact hP, hD⟩⟩, hS.F ht9⟩) hS.2.2 dX12_unit_201
                · have q_87 : ¬ y0_2.toInt = (0 : Int32).toInt := by have := (not_congr (ow_eq _ _)).mp c_79; omega
                  exfalso
                  omega
          refine lv_iload_n hx hb dX12_unit_145 rfl (lv_at hl 2 rfl) ?_
          refine lv_if_eq (tgt := 153) hx hb dX12_unit_146 (by decide) (fun c_88 => ?_) (fun c_88 => ?_)
          · have q_89 : y0_2.toInt = (0 : Int32).toInt := (ow_eq _ _).mp c_88
            refine lv_iconst (v := 1) hx hb dX12_unit_153 (by decide) ?_
            refine W.widen (k := 0) (n := 0) (Nat.le_of_ble_eq_true rfl) (Nat.le_of_ble_eq_true rfl) ?_
            exact jn_14 (1) _ _ _ (by omega) (by omega) hP hD hS (lv_sub hl [0, 1, 2, 3, 4] rfl)
          · have q_90 : ¬ y0_2.toInt = (0 : Int32).toInt := by have := (not_congr (ow_eq _ _)).mp c_88; omega
            refine lv_iconst (v := 0) hx hb dX12_unit_149 (by decide) ?_
            refine lv_goto (tgt := 154) hx hb dX12_unit_150 (by decide) ?_
            refine W.widen (k := 0) (n := 0) (Nat.le_of_ble_eq_true rfl) (Nat.le_of_ble_eq_true rfl) ?_
            exact jn_14 (0) _ _ _ (by omega) (by omega) hP hD hS (lv_sub hl [0, 1, 2, 3, 4] rfl)
        · have q_91 : r_u_6.toInt = (0 : Int32).toInt := (ow_eq _ _).mp c_7
          refine lv_iconst (v := 1) hx hb dX12_unit_133 (by decide) ?_
          refine W.widen (k := 0) (n := 0) (Nat.le_of_ble_eq_true rfl) (Nat.le_of_ble_eq_true rfl) ?_
          exact W.zret (v := 1) hx hb hr rfl (fun t ht9 hW => ⟨⟨1, (v5, nm5, f, g), rfl, ⟨hv, hf, hR, hL, hV_0, hF_0, ⟨(by omega), (show (v5 7).toInt ≤ (v 3).toInt from by rw [(show v5 7 = (v 7) from (hV_5 7 (by decide)))]; first | omega | (subst_vars; first | rfl | omega))⟩, (show 0 ≤ mz (v 3).toInt (v5 7).toInt (v5 8).toInt ∧ mz (v 3).toInt (v5 7).toInt (v5 8).toInt ≤ mz (v 3).toInt (v 7).toInt (v 8).toInt ∧ ((v5 4).toInt ≠ 0 ∨ mz (v 3).toInt (v5 7).toInt (v5 8).toInt < mz (v 3).toInt (v 7).toInt (v 8).toInt) from by rw [(show v5 7 = (v 7) from (hV_5 7 (by decide))), (show v5 8 = (v 8) from (hV_5 8 (by decide)))]; omega), (show (v5 4).toInt = 0 → EI (1 : Int32).toInt (v 30).toInt Fz (v5 31).toInt (v5 33).toInt (v5 32).toInt ((f 13) (Int32.toNatClampNeg (v 30))).toInt (f 26) (f 27) (f 24) (f 25) from by rw [(show v5 31 = (v 31) from (hV_5 31 (by decide))), (show v5 33 = (v 33) from (hV_5 33 (by decide))), (show v5 32 = (v 32) from (hV_5 32 (by decide)))]; exact fun h9 => absurd h9 (by omega)), (show OUT Fz (600 * (v 30).toInt + 600) (f 24) (f 25) (f 24) (f 25) from by exact OUT.rf)⟩, ⟨by rw [ht9]; exact hP, hD⟩⟩, hS.F ht9⟩) hS.2.2 dX12_unit_134
      have hW_5 : FV [4, 5] v v := FV.rf
      refine lv_iload_n hx hb dX12_unit_70 rfl (lv_at hl 2 rfl) ?_
      refine lv_if_ne (tgt := 105) hx hb dX12_unit_71 (by decide) (fun c_92 => ?_) (fun c_92 => ?_)
      · have q_93 : ¬ y0_2.toInt = (0 : Int32).toInt := by have := (not_congr (ow_eq _ _)).mp c_92; omega
        refine lv_iload_n hx hb dX12_unit_105 rfl (lv_at hl 2 rfl) ?_
        refine lv_if_ne (tgt := 113) hx hb dX12_unit_106 (by decide) (fun c_94 => ?_) (fun c_94 => ?_)
        · have q_95 : ¬ y0_2.toInt = (0 : Int32).toInt := by have := (not_congr (ow_eq _ _)).mp c_94; omega
          refine lv_aload_n hx hb dX12_unit_113 rfl (lv_at hl 4 rfl) ?_
          refine mg_32 hx hb ht hown hK hP dX12_unit_114 ?_
          have q_96 : 0 ≤ (v 32).toInt ∧ (v 32).toInt ≤ 7 := hv 32
          refine lv_bipush (v := 7) hx hb dX12_unit_117 (by decide) ?_
          refine lv_icmp_ne (tgt := 126) hx hb dX12_unit_119 (by decide) (fun c_97 => ?_) (fun c_97 => ?_)
          · have q_98 : ¬ (v 32).toInt = (7 : Int32).toInt := by have := (not_congr (ow_eq _ _)).mp c_97; omega
            refine W.widen (k := 0) (n := 0) (Nat.le_of_ble_eq_true rfl) (Nat.le_of_ble_eq_true rfl) ?_
            exact jn_5 v nm _ _ _ hv hW_5 (show (v 4).toInt ≠ 0 ∨ ((v 8).toInt ≠ 0 ∧ (y0_2.toInt = 1 ∨ (f 13 (Int32.toNatClampNeg (v 30))).toInt ≠ 60) ∧ ((y0_2.toInt = 0 ∧ r_u_3.toInt = 0) ∨ (v 32).toInt ≠ 7)) from by omega) hP hD hS (lv_sub hl [0, 1, 2, 3, 4] rfl)
          · have q_99 : (v 32).toInt = (7 : Int32).toInt := (ow_eq _ _).mp c_97
            refine lv_aload_n hx hb dX12_unit_122 rfl (lv_at hl 4 rfl) ?_
            have hFc := fr_free hD hS hA
            refine va_callv (va_runV (As := []) (rest := []) ⟨hx, hb, hml, hown, ht⟩ (m_misplaced l G cy _ mo h T v nm f g   hv hf hR hL) (cwV 0 ht (gv k_228 k_229 k_230 k_61 k_227) rfl rfl rfl (by decide +kernel) ⟨Nat.le_of_ble_eq_true rfl, Nat.le_of_ble_eq_true rfl⟩) ⟨En.blind, va_recv hK hP (ci := 12) (q0 := 0) rfl rfl, fun U hU hW => ⟨rfl, En.of hU hW hP hK hD hN⟩⟩ rfl rfl hl.1 rfl (lv_room (Nat.le_of_ble_eq_true rfl)) dX12_unit_123 ⟨Nat.le_of_ble_eq_true rfl, Nat.le_of_ble_eq_true rfl⟩) hS (fun q _ h => hFc q h) hFc (fun u_100 t9 H locs ht9 hvm hw hB hz1 hk1 hS => ?_)
            obtain ⟨v100, nm100⟩ := u_100
            obtain ⟨hP1, hD1⟩ := hB
            rw [ht9] at hP1
            obtain ⟨hv, xu_100V, wu_100⟩ := hw
            dsimp only at hv xu_100V wu_100
            have hP : va_P G vwCl (WMs cy mo h v100 nm100 f g) H := hP1
            have hD : va_D A (WMs cy mo h v100 nm100 f g) := hD1.weaken (fun _ _ _ h => hFc _ h)
            have hR : RI v100 f := RI.fv hR xu_100V (by decide)
            have hL : WL v100 f := WL.fv hL xu_100V (by decide) (by decide)
            have hV_0 := FV.tr hV_0 xu_100V (by decide)
            have hW_5 := FV.tr hW_5 xu_100V (by decide)
            clear hFc hk1 hz1 hP1 hD1
            have wu_100 : (1 ≤ (v100 4).toInt) := wu_100
            refine W.widen (k := 0) (n := 0) (Nat.le_of_ble_eq_true rfl) (Nat.le_of_ble_eq_true rfl) ?_
            exact jn_5 v100 nm100 _ _ _ hv hW_5 (show (v100 4).toInt ≠ 0 ∨ ((v 8).toInt ≠ 0 ∧ (y0_2.toInt = 1 ∨ (f 13 (Int32.toNatClampNeg (v 30))).toInt ≠ 60) ∧ ((y0_2.toInt = 0 ∧ r_u_3.toInt = 0) ∨ (v 32).toInt ≠ 7)) from by omega) hP hD hS (lv_sub hl [0, 1, 2, 3, 4] rfl)
        · have q_101 : y0_2.toInt = (0 : Int32).toInt := (ow_eq _ _).mp c_94
          exfalso
          omega
      · have q_102 : y0_2.toInt = (0 : Int32).toInt := (ow_eq _ _).mp c_92
        refine lv_iload hx hb dX12_unit_74 (lv_at hl 0 rfl) ?_
        refine lv_if_ne (tgt := 91) hx hb dX12_unit_76 (by decide) (fun c_103 => ?_) (fun c_103 => ?_)
        · have q_104 : ¬ r_u_4.toInt = (0 : Int32).toInt := by have := (not_congr (ow_eq _ _)).mp c_103; omega
          refine lv_aload_n hx hb dX12_unit_91 rfl (lv_at hl 4 rfl) ?_
          refine mg_13 hx hb ht hown hK hP dX12_unit_92 ?_
          refine lv_aload_n hx hb dX12_unit_95 rfl (lv_at hl 4 rfl) ?_
          refine mg_30 hx hb ht hown hK hP dX12_unit_96 ?_
          have q_105 : 0 ≤ (v 30).toInt ∧ (v 30).toInt ≤ 1 := hv 30
          have q_106 : vp_in (v 30) 2 := vp_in_iff.mpr ⟨by omega, by omega⟩
          refine ml_13 hx hb hK hP q_106 dX12_unit_99 ?_
          refine lv_topi (fun v_107 ev_107 => ?_)
          have q_108 : 0 ≤ v_107.toInt ∧ v_107.toInt ≤ 60 := by rw [ev_107]; exact MIf.rd 13 hf q_106
          have q_109 : v_107.toInt = ((f 13) (Int32.toNatClampNeg (v 30))).toInt := (congrArg Int32.toInt ev_107).trans (congrArg (fun z : Nat → Int32 => (z (Int32.toNatClampNeg (v 30))).toInt) (show f 13 = (f 13) from rfl))
          refine lv_bipush (v := 60) hx hb dX12_unit_100 (by decide) ?_
          refine lv_icmp_eq (tgt := 122) hx hb dX12_unit_102 (by decide) (fun c_110 => ?_) (fun c_110 => ?_)
          · have q_111 : v_107.toInt = (60 : Int32).toInt := (ow_eq _ _).mp c_110
            refine lv_aload_n hx hb dX12_unit_122 rfl (lv_at hl 4 rfl) ?_
            have hFc := fr_free hD hS hA
            refine va_callv (va_runV (As := []) (rest := []) ⟨hx, hb, hml, hown, ht⟩ (m_misplaced l G cy _ mo h T v nm f g   hv hf hR hL) (cwV 0 ht (gv k_228 k_229 k_230 k_61 k_227) rfl rfl rfl (by decide +kernel) ⟨Nat.le_of_ble_eq_true rfl, Nat.le_of_ble_eq_true rfl⟩) ⟨En.blind, va_recv hK hP (ci := 12) (q0 := 0) rfl rfl, fun U hU hW => ⟨rfl, En.of hU hW hP hK hD hN⟩⟩ rfl rfl hl.1 rfl (lv_room (Nat.le_of_ble_eq_true rfl)) dX12_unit_123 ⟨Nat.le_of_ble_eq_true rfl, Nat.le_of_ble_eq_true rfl⟩) hS (fun q _ h => hFc q h) hFc (fun u_112 t9 H locs ht9 hvm hw hB hz1 hk1 hS => ?_)
            obtain ⟨v112, nm112⟩ := u_112
            obtain ⟨hP1, hD1⟩ := hB
            rw [ht9] at hP1
            obtain ⟨hv, xu_112V, wu_112⟩ := hw
            dsimp only at hv xu_112V wu_112
            have hP : va_P G vwCl (WMs cy mo h v112 nm112 f g) H := hP1
            have hD : va_D A (WMs cy mo h v112 nm112 f g) := hD1.weaken (fun _ _ _ h => hFc _ h)
            have hR : RI v112 f := RI.fv hR xu_112V (by decide)
            have hL : WL v112 f := WL.fv hL xu_112V (by decide) (by decide)
            have hV_0 := FV.tr hV_0 xu_112V (by decide)
            have hW_5 := FV.tr hW_5 xu_112V (by decide)
            clear hFc hk1 hz1 hP1 hD1
            have wu_112 : (1 ≤ (v112 4).toInt) := wu_112
            refine W.widen (k := 0) (n := 0) (Nat.le_of_ble_eq_true rfl) (Nat.le_of_ble_eq_true rfl) ?_
            exact jn_5 v112 nm112 _ _ _ hv hW_5 (show (v112 4).toInt ≠ 0 ∨ ((v 8).toInt ≠ 0 ∧ (y0_2.toInt = 1 ∨ (f 13 (Int32.toNatClampNeg (v 30))).toInt ≠ 60) ∧ ((y0_2.toInt = 0 ∧ r_u_3.toInt = 0) ∨ (v 32).toInt ≠ 7)) from by omega) hP hD hS (lv_sub hl [0, 1, 2, 3, 4] rfl)
          · have q_113 : ¬ v_107.toInt = (60 : Int32).toInt := by have := (not_congr (ow_eq _ _)).mp c_110; omega
            refine lv_iload_n hx hb dX12_unit_105 rfl (lv_at hl 2 rfl) ?_
            refine lv_if_ne (tgt := 113) hx hb dX12_unit_106 (by decide) (fun c_114 => ?_) (fun c_114 => ?_)
            · have q_115 : ¬ y0_2.toInt = (0 : Int32).toInt := by have := (not_congr (ow_eq _ _)).mp c_114; omega
              exfalso
              omega
            · have q_116 : y0_2.toInt = (0 : Int32).toInt := (ow_eq _ _).mp c_114
              refine lv_iload_n hx hb dX12_unit_109 rfl (lv_at hl 1 rfl) ?_
              refine lv_if_eq (tgt := 126) hx hb dX12_unit_110 (by decide) (fun c_117 => ?_) (fun c_117 => ?_)
              · have q_118 : r_u_3.toInt = (0 : Int32).toInt := (ow_eq _ _).mp c_117
                refine W.widen (k := 0) (n := 0) (Nat.le_of_ble_eq_true rfl) (Nat.le_of_ble_eq_true rfl) ?_
                exact jn_5 v nm _ _ _ hv hW_5 (show (v 4).toInt ≠ 0 ∨ ((v 8).toInt ≠ 0 ∧ (y0_2.toInt = 1 ∨ (f 13 (Int32.toNatClampNeg (v 30))).toInt ≠ 60) ∧ ((y0_2.toInt = 0 ∧ r_u_3.toInt = 0) ∨ (v 32).toInt ≠ 7)) from by omega) hP hD hS (lv_sub hl [0, 1, 2, 3, 4] rfl)
              · have q_119 : ¬ r_u_3.toInt = (0 : Int32).toInt := by have := (not_congr (ow_eq _ _)).mp c_117; omega
                refine lv_aload_n hx hb dX12_unit_113 rfl (lv_at hl 4 rfl) ?_
                refine mg_32 hx hb ht hown hK hP dX12_unit_114 ?_
                have q_120 : 0 ≤ (v 32).toInt ∧ (v 32).toInt ≤ 7 := hv 32
                refine lv_bipush (v := 7) hx hb dX12_unit_117 (by decide) ?_
                refine lv_icmp_ne (tgt := 126) hx hb dX12_unit_119 (by decide) (fun c_121 => ?_) (fun c_121 => ?_)
                · have q_122 : ¬ (v 32).toInt = (7 : Int32).toInt := by have := (not_congr (ow_eq _ _)).mp c_121; omega
                  refine W.widen (k := 0) (n := 0) (Nat.le_of_ble_eq_true rfl) (Nat.le_of_ble_eq_true rfl) ?_
                  exact jn_5 v nm _ _ _ hv hW_5 (show (v 4).toInt ≠ 0 ∨ ((v 8).toInt ≠ 0 ∧ (y0_2.toInt = 1 ∨ (f 13 (Int32.toNatClampNeg (v 30))).toInt ≠ 60) ∧ ((y0_2.toInt = 0 ∧ r_u_3.toInt = 0) ∨ (v 32).toInt ≠ 7)) from by omega) hP hD hS (lv_sub hl [0, 1, 2, 3, 4] rfl)
                · have q_123 : (v 32).toInt = (7 : Int32).toInt := (ow_eq _ _).mp c_121
                  refine lv_aload_n hx hb dX12_unit_122 rfl (lv_at hl 4 rfl) ?_
                  have hFc := fr_free hD hS hA
                  refine va_callv (va_runV (As := []) (rest := []) ⟨hx, hb, hml, hown, ht⟩ (m_misplaced l G cy _ mo h T v nm f g   hv hf hR hL) (cwV 0 ht (gv k_228 k_229 k_230 k_61 k_227) rfl rfl rfl (by decide +kernel) ⟨Nat.le_of_ble_eq_true rfl, Nat.le_of_ble_eq_true rfl⟩) ⟨En.blind, va_recv hK hP (ci := 12) (q0 := 0) rfl rfl, fun U hU hW => ⟨rfl, En.of hU hW hP hK hD hN⟩⟩ rfl rfl hl.1 rfl (lv_room (Nat.le_of_ble_eq_true rfl)) dX12_unit_123 ⟨Nat.le_of_ble_eq_true rfl, Nat.le_of_ble_eq_true rfl⟩) hS (fun q _ h => hFc q h) hFc (fun u_124 t9 H locs ht9 hvm hw hB hz1 hk1 hS => ?_)
                  obtain ⟨v124, nm124⟩ := u_124
                  obtain ⟨hP1, hD1⟩ := hB
                  rw [ht9] at hP1
                  obtain ⟨hv, xu_124V, wu_124⟩ := hw
                  dsimp only at hv xu_124V wu_124
                  have hP : va_P G vwCl (WMs cy mo h v124 nm124 f g) H := hP1
                  have hD : va_D A (WMs cy mo h v124 nm124 f g) := hD1.weaken (fun _ _ _ h => hFc _ h)
                  have hR : RI v124 f := RI.fv hR xu_124V (by decide)
                  have hL : WL v124 f := WL.fv hL xu_124V (by decide) (by decide)
                  have hV_0 := FV.tr hV_0 xu_124V (by decide)
                  have hW_5 := FV.tr hW_5 xu_124V (by decide)
                  clear hFc hk1 hz1 hP1 hD1
                  have wu_124 : (1 ≤ (v124 4).toInt) := wu_124
                  refine W.widen (k := 0) (n := 0) (Nat.le_of_ble_eq_true rfl) (Nat.le_of_ble_eq_true rfl) ?_
                  exact jn_5 v124 nm124 _ _ _ hv hW_5 (show (v124 4).toInt ≠ 0 ∨ ((v 8).toInt ≠ 0 ∧ (y0_2.toInt = 1 ∨ (f 13 (Int32.toNatClampNeg (v 30))).toInt ≠ 60) ∧ ((y0_2.toInt = 0 ∧ r_u_3.toInt = 0) ∨ (v 32).toInt ≠ 7)) from by omega) hP hD hS (lv_sub hl [0, 1, 2, 3, 4] rfl)
        · have q_125 : r_u_4.toInt = (0 : Int32).toInt := (ow_eq _ _).mp c_103
          refine lv_aload_n hx hb dX12_unit_79 rfl (lv_at hl 4 rfl) ?_
          refine mg_8 hx hb ht hown hK hP dX12_unit_80 ?_
          refine lv_iconst (v := 4) hx hb dX12_unit_83 (by decide) ?_
          refine lv_icmp_eq (tgt := 91) hx hb dX12_unit_84 (by decide) (fun c_126 => ?_) (fun c_126 => ?_)
          · have q_127 : (v 8).toInt = (4 : Int32).toInt := (ow_eq _ _).mp c_126
            refine lv_aload_n hx hb dX12_unit_91 rfl (lv_at hl 4 rfl) ?_
            refine mg_13 hx hb ht hown hK hP dX12_unit_92 ?_
            refine lv_aload_n hx hb dX12_unit_95 rfl (lv_at hl 4 rfl) ?_
            refine mg_30 hx hb ht hown hK hP dX12_unit_96 ?_
            have q_128 : 0 ≤ (v 30).toInt ∧ (v 30).toInt ≤ 1 := hv 30
            have q_129 : vp_in (v 30) 2 := vp_in_iff.mpr ⟨by omega, by omega⟩
            refine ml_13 hx hb hK hP q_129 dX12_unit_99 ?_
            refine lv_topi (fun v_130 ev_130 => ?_)
            have q_131 : 0 ≤ v_130.toInt ∧ v_130.toInt ≤ 60 := by rw [ev_130]; exact MIf.rd 13 hf q_129
            have q_132 : v_130.toInt = ((f 13) (Int32.toNatClampNeg (v 30))).toInt := (congrArg Int32.toInt ev_130).trans (congrArg (fun z : Nat → Int32 => (z (Int32.toNatClampNeg (v 30))).toInt) (show f 13 = (f 13) from rfl))
            refine lv_bipush (v := 60) hx hb dX12_unit_100 (by decide) ?_
            refine lv_icmp_eq (tgt := 122) hx hb dX12_unit_102 (by decide) (fun c_133 => ?_) (fun c_133 => ?_)
            · have q_134 : v_130.toInt = (60 : Int32).toInt := (ow_eq _ _).mp c_133
              refine lv_aload_n hx hb dX12_unit_122 rfl (lv_at hl 4 rfl) ?_
              have hFc := fr_free hD hS hA
              refine va_callv (va_runV (As := []) (rest := []) ⟨hx, hb, hml, hown, ht⟩ (m_misplaced l G cy _ mo h T v nm f g   hv hf hR hL) (cwV 0 ht (gv k_228 k_229 k_230 k_61 k_227) rfl rfl rfl (by decide +kernel) ⟨Nat.le_of_ble_eq_true rfl, Nat.le_of_ble_eq_true rfl⟩) ⟨En.blind, va_recv hK hP (ci := 12) (q0 := 0) rfl rfl, fun U hU hW => ⟨rfl, En.of hU hW hP hK hD hN⟩⟩ rfl rfl hl.1 rfl (lv_room (Nat.le_of_ble_eq_true rfl)) dX12_unit_123 ⟨Nat.le_of_ble_eq_true rfl, Nat.le_of_ble_eq_true rfl⟩) hS (fun q _ h => hFc q h) hFc (fun u_135 t9 H locs ht9 hvm hw hB hz1 hk1 hS => ?_)
              obtain ⟨v135, nm135⟩ := u_135
              obtain ⟨hP1, hD1⟩ := hB
              rw [ht9] at hP1
              obtain ⟨hv, xu_135V, wu_135⟩ := hw
              dsimp only at hv xu_135V wu_135
              have hP : va_P G vwCl (WMs cy mo h v135 nm135 f g) H := hP1
              have hD : va_D A (WMs cy mo h v135 nm135 f g) := hD1.weaken (fun _ _ _ h => hFc _ h)
              have hR : RI v135 f := RI.fv hR xu_135V (by decide)
              have hL : WL v135 f := WL.fv hL xu_135V (by decide) (by decide)
              have hV_0 := FV.tr hV_0 xu_135V (by decide)
              have hW_5 := FV.tr hW_5 xu_135V (by decide)
              clear hFc hk1 hz1 hP1 hD1
              have wu_135 : (1 ≤ (v135 4).toInt) := wu_135
              refine W.widen (k := 0) (n := 0) (Nat.le_of_ble_eq_true rfl) (Nat.le_of_ble_eq_true rfl) ?_
              exact jn_5 v135 nm135 _ _ _ hv hW_5 (show (v135 4).toInt ≠ 0 ∨ ((v 8).toInt ≠ 0 ∧ (y0_2.toInt = 1 ∨ (f 13 (Int32.toNatClampNeg (v 30))).toInt ≠ 60) ∧ ((y0_2.toInt = 0 ∧ r_u_3.toInt = 0) ∨ (v 32).toInt ≠ 7)) from by omega) hP hD hS (lv_sub hl [0, 1, 2, 3, 4] rfl)
            · have q_136 : ¬ v_130.toInt = (60 : Int32).toInt := by have := (not_congr (ow_eq _ _)).mp c_133; omega
              refine lv_iload_n hx hb dX12_unit_105 rfl (lv_at hl 2 rfl) ?_
              refine lv_if_ne (tgt := 113) hx hb dX12_unit_106 (by decide) (fun c_137 => ?_) (fun c_137 => ?_)
              · have q_138 : ¬ y0_2.toInt = (0 : Int32).toInt := by have := (not_congr (ow_eq _ _)).mp c_137; omega
                exfalso
                omega
              · have q_139 : y0_2.toInt = (0 : Int32).toInt := (ow_eq _ _).mp c_137
                refine lv_iload_n hx hb dX12_unit_109 rfl (lv_at hl 1 rfl) ?_
                refine lv_if_eq (tgt := 126) hx hb dX12_unit_110 (by decide) (fun c_140 => ?_) (fun c_140 => ?_)
                · have q_141 : r_u_3.toInt = (0 : Int32).toInt := (ow_eq _ _).mp c_140
                  refine W.widen (k := 0) (n := 0) (Nat.le_of_ble_eq_true rfl) (Nat.le_of_ble_eq_true rfl) ?_
                  exact jn_5 v nm _ _ _ hv hW_5 (show (v 4).toInt ≠ 0 ∨ ((v 8).toInt ≠ 0 ∧ (y0_2.toInt = 1 ∨ (f 13 (Int32.toNatClampNeg (v 30))).toInt ≠ 60) ∧ ((y0_2.toInt = 0 ∧ r_u_3.toInt = 0) ∨ (v 32).toInt ≠ 7)) from by omega) hP hD hS (lv_sub hl [0, 1, 2, 3, 4] rfl)
                · have q_142 : ¬ r_u_3.toInt = (0 : Int32).toInt := by have := (not_congr (ow_eq _ _)).mp c_140; omega
                  refine lv_aload_n hx hb dX12_unit_113 rfl (lv_at hl 4 rfl) ?_
                  refine mg_32 hx hb ht hown hK hP dX12_unit_114 ?_
                  have q_143 : 0 ≤ (v 32).toInt ∧ (v 32).toInt ≤ 7 := hv 32
                  refine lv_bipush (v := 7) hx hb dX12_unit_117 (by decide) ?_
                  refine lv_icmp_ne (tgt := 126) hx hb dX12_unit_119 (by decide) (fun c_144 => ?_) (fun c_144 => ?_)
                  · have q_145 : ¬ (v 32).toInt = (7 : Int32).toInt := by have := (not_congr (ow_eq _ _)).mp c_144; omega
                    refine W.widen (k := 0) (n := 0) (Nat.le_of_ble_eq_true rfl) (Nat.le_of_ble_eq_true rfl) ?_
                    exact jn_5 v nm _ _ _ hv hW_5 (show (v 4).toInt ≠ 0 ∨ ((v 8).toInt ≠ 0 ∧ (y0_2.toInt = 1 ∨ (f 13 (Int32.toNatClampNeg (v 30))).toInt ≠ 60) ∧ ((y0_2.toInt = 0 ∧ r_u_3.toInt = 0) ∨ (v 32).toInt ≠ 7)) from by omega) hP hD hS (lv_sub hl [0, 1, 2, 3, 4] rfl)
                  · have q_146 : (v 32).toInt = (7 : Int32).toInt := (ow_eq _ _).mp c_144
                    refine lv_aload_n hx hb dX12_unit_122 rfl (lv_at hl 4 rfl) ?_
                    have hFc := fr_free hD hS hA
                    refine va_callv (va_runV (As := []) (rest := []) ⟨hx, hb, hml, hown, ht⟩ (m_misplaced l G cy _ mo h T v nm f g   hv hf hR hL) (cwV 0 ht (gv k_228 k_229 k_230 k_61 k_227) rfl rfl rfl (by decide +kernel) ⟨Nat.le_of_ble_eq_true rfl, Nat.le_of_ble_eq_true rfl⟩) ⟨En.blind, va_recv hK hP (ci := 12) (q0 := 0) rfl rfl, fun U hU hW => ⟨rfl, En.of hU hW hP hK hD hN⟩⟩ rfl rfl hl.1 rfl (lv_room (Nat.le_of_ble_eq_true rfl)) dX12_unit_123 ⟨Nat.le_of_ble_eq_true rfl, Nat.le_of_ble_eq_true rfl⟩) hS (fun q _ h => hFc q h) hFc (fun u_147 t9 H locs ht9 hvm hw hB hz1 hk1 hS => ?_)
                    obtain ⟨v147, nm147⟩ := u_147
                    obtain ⟨hP1, hD1⟩ := hB
                    rw [ht9] at hP1
                    obtain ⟨hv, xu_147V, wu_147⟩ := hw
                    dsimp only at hv xu_147V wu_147
                    have hP : va_P G vwCl (WMs cy mo h v147 nm147 f g) H := hP1
                    have hD : va_D A (WMs cy mo h v147 nm147 f g) := hD1.weaken (fun _ _ _ h => hFc _ h)
                    have hR : RI v147 f := RI.fv hR xu_147V (by decide)
                    have hL : WL v147 f := WL.fv hL xu_147V (by decide) (by decide)
                    have hV_0 := FV.tr hV_0 xu_147V (by decide)
                    have hW_5 := FV.tr hW_5 xu_147V (by decide)
                    clear hFc hk1 hz1 hP1 hD1
                    have wu_147 : (1 ≤ (v147 4).toInt) := wu_147
                    refine W.widen (k := 0) (n := 0) (Nat.le_of_ble_eq_true rfl) (Nat.le_of_ble_eq_true rfl) ?_
                    exact jn_5 v147 nm147 _ _ _ hv hW_5 (show (v147 4).toInt ≠ 0 ∨ ((v 8).toInt ≠ 0 ∧ (y0_2.toInt = 1 ∨ (f 13 (Int32.toNatClampNeg (v 30))).toInt ≠ 60) ∧ ((y0_2.toInt = 0 ∧ r_u_3.toInt = 0) ∨ (v 32).toInt ≠ 7)) from by omega) hP hD hS (lv_sub hl [0, 1, 2, 3, 4] rfl)
          · have q_148 : ¬ (v 8).toInt = (4 : Int32).toInt := by have := (not_congr (ow_eq _ _)).mp c_126; omega
            refine lv_iload_n hx hb dX12_unit_87 rfl (lv_at hl 1 rfl) ?_
            refine lv_if_eq (tgt := 122) hx hb dX12_unit_88 (by decide) (fun c_149 => ?_) (fun c_149 => ?_)
            · have q_150 : r_u_3.toInt = (0 : Int32).toInt := (ow_eq _ _).mp c_149
              refine lv_aload_n hx hb dX12_unit_122 rfl (lv_at hl 4 rfl) ?_
              have hFc := fr_free hD hS hA
              refine va_callv (va_runV (As := []) (rest := []) ⟨hx, hb, hml, hown, ht⟩ (m_misplaced l G cy _ mo h T v nm f g   hv hf hR hL) (cwV 0 ht (gv k_228 k_229 k_230 k_61 k_227) rfl rfl rfl (by decide +kernel) ⟨Nat.le_of_ble_eq_true rfl, Nat.le_of_ble_eq_true rfl⟩) ⟨En.blind, va_recv hK hP (ci := 12) (q0 := 0) rfl rfl, fun U hU hW => ⟨rfl, En.of hU hW hP hK hD hN⟩⟩ rfl rfl hl.1 rfl (lv_room (Nat.le_of_ble_eq_true rfl)) dX12_unit_123 ⟨Nat.le_of_ble_eq_true rfl, Nat.le_of_ble_eq_true rfl⟩) hS (fun q _ h => hFc q h) hFc (fun u_151 t9 H locs ht9 hvm hw hB hz1 hk1 hS => ?_)
              obtain ⟨v151, nm151⟩ := u_151
              obtain ⟨hP1, hD1⟩ := hB
              rw [ht9] at hP1
              obtain ⟨hv, xu_151V, wu_151⟩ := hw
              dsimp only at hv xu_151V wu_151
              have hP : va_P G vwCl (WMs cy mo h v151 nm151 f g) H := hP1
              have hD : va_D A (WMs cy mo h v151 nm151 f g) := hD1.weaken (fun _ _ _ h => hFc _ h)
              have hR : RI v151 f := RI.fv hR xu_151V (by decide)
              have hL : WL v151 f := WL.fv hL xu_151V (by decide) (by decide)
              have hV_0 := FV.tr hV_0 xu_151V (by decide)
              have hW_5 := FV.tr hW_5 xu_151V (by decide)
              clear hFc hk1 hz1 hP1 hD1
              have wu_151 : (1 ≤ (v151 4).toInt) := wu_151
              refine W.widen (k := 0) (n := 0) (Nat.le_of_ble_eq_true rfl) (Nat.le_of_ble_eq_true rfl) ?_
              exact jn_5 v151 nm151 _ _ _ hv hW_5 (show (v151 4).toInt ≠ 0 ∨ ((v 8).toInt ≠ 0 ∧ (y0_2.toInt = 1 ∨ (f 13 (Int32.toNatClampNeg (v 30))).toInt ≠ 60) ∧ ((y0_2.toInt = 0 ∧ r_u_3.toInt = 0) ∨ (v 32).toInt ≠ 7)) from by omega) hP hD hS (lv_sub hl [0, 1, 2, 3, 4] rfl)
            · have q_152 : ¬ r_u_3.toInt = (0 : Int32).toInt := by have := (not_congr (ow_eq _ _)).mp c_149; omega
              refine lv_aload_n hx hb dX12_unit_91 rfl (lv_at hl 4 rfl) ?_
              refine mg_13 hx hb ht hown hK hP dX12_unit_92 ?_
              refine lv_aload_n hx hb dX12_unit_95 rfl (lv_at hl 4 rfl) ?_
              refine mg_30 hx hb ht hown hK hP dX12_unit_96 ?_
              have q_153 : 0 ≤ (v 30).toInt ∧ (v 30).toInt ≤ 1 := hv 30
              have q_154 : vp_in (v 30) 2 := vp_in_iff.mpr ⟨by omega, by omega⟩
              refine ml_13 hx hb hK hP q_154 dX12_unit_99 ?_
              refine lv_topi (fun v_155 ev_155 => ?_)
              have q_156 : 0 ≤ v_155.toInt ∧ v_155.toInt ≤ 60 := by rw [ev_155]; exact MIf.rd 13 hf q_154
              have q_157 : v_155.toInt = ((f 13) (Int32.toNatClampNeg (v 30))).toInt := (congrArg Int32.toInt ev_155).trans (congrArg (fun z : Nat → Int32 => (z (Int32.toNatClampNeg (v 30))).toInt) (show f 13 = (f 13) from rfl))
              refine lv_bipush (v := 60) hx hb dX12_unit_100 (by decide) ?_
              refine lv_icmp_eq (tgt := 122) hx hb dX12_unit_102 (by decide) (fun c_158 => ?_) (fun c_158 => ?_)
              · have q_159 : v_155.toInt = (60 : Int32).toInt := (ow_eq _ _).mp c_158
                refine lv_aload_n hx hb dX12_unit_122 rfl (lv_at hl 4 rfl) ?_
                have hFc := fr_free hD hS hA
                refine va_callv (va_runV (As := []) (rest := []) ⟨hx, hb, hml, hown, ht⟩ (m_misplaced l G cy _ mo h T v nm f g   hv hf hR hL) (cwV 0 ht (gv k_228 k_229 k_230 k_61 k_227) rfl rfl rfl (by decide +kernel) ⟨Nat.le_of_ble_eq_true rfl, Nat.le_of_ble_eq_true rfl⟩) ⟨En.blind, va_recv hK hP (ci := 12) (q0 := 0) rfl rfl, fun U hU hW => ⟨rfl, En.of hU hW hP hK hD hN⟩⟩ rfl rfl hl.1 rfl (lv_room (Nat.le_of_ble_eq_true rfl)) dX12_unit_123 ⟨Nat.le_of_ble_eq_true rfl, Nat.le_of_ble_eq_true rfl⟩) hS (fun q _ h => hFc q h) hFc (fun u_160 t9 H locs ht9 hvm hw hB hz1 hk1 hS => ?_)
                obtain ⟨v160, nm160⟩ := u_160
                obtain ⟨hP1, hD1⟩ := hB
                rw [ht9] at hP1
                obtain ⟨hv, xu_160V, wu_160⟩ := hw
                dsimp only at hv xu_160V wu_160
                have hP : va_P G vwCl (WMs cy mo h v160 nm160 f g) H := hP1
                have hD : va_D A (WMs cy mo h v160 nm160 f g) := hD1.weaken (fun _ _ _ h => hFc _ h)
                have hR : RI v160 f := RI.fv hR xu_160V (by decide)
                have hL : WL v160 f := WL.fv hL xu_160V (by decide) (by decide)
                have hV_0 := FV.tr hV_0 xu_160V (by decide)
                have hW_5 := FV.tr hW_5 xu_160V (by decide)
                clear hFc hk1 hz1 hP1 hD1
                have wu_160 : (1 ≤ (v160 4).toInt) := wu_160
                refine W.widen (k := 0) (n := 0) (Nat.le_of_ble_eq_true rfl) (Nat.le_of_ble_eq_true rfl) ?_
                exact jn_5 v160 nm160 _ _ _ hv hW_5 (show (v160 4).toInt ≠ 0 ∨ ((v 8).toInt ≠ 0 ∧ (y0_2.toInt = 1 ∨ (f 13 (Int32.toNatClampNeg (v 30))).toInt ≠ 60) ∧ ((y0_2.toInt = 0 ∧ r_u_3.toInt = 0) ∨ (v 32).toInt ≠ 7)) from by omega) hP hD hS (lv_sub hl [0, 1, 2, 3, 4] rfl)
              · have q_161 : ¬ v_155.toInt = (60 : Int32).toInt := by have := (not_congr (ow_eq _ _)).mp c_158; omega
                refine lv_iload_n hx hb dX12_unit_105 rfl (lv_at hl 2 rfl) ?_
                refine lv_if_ne (tgt := 113) hx hb dX12_unit_106 (by decide) (fun c_162 => ?_) (fun c_162 => ?_)
                · have q_163 : ¬ y0_2.toInt = (0 : Int32).toInt := by have := (not_congr (ow_eq _ _)).mp c_162; omega
                  exfalso
                  omega
                · have q_164 : y0_2.toInt = (0 : Int32).toInt := (ow_eq _ _).mp c_162
                  refine lv_iload_n hx hb dX12_unit_109 rfl (lv_at hl 1 rfl) ?_
                  refine lv_if_eq (tgt := 126) hx hb dX12_unit_110 (by decide) (fun c_165 => ?_) (fun c_165 => ?_)
                  · have q_166 : r_u_3.toInt = (0 : Int32).toInt := (ow_eq _ _).mp c_165
                    exfalso
                    omega
                  · have q_167 : ¬ r_u_3.toInt = (0 : Int32).toInt := by have := (not_congr (ow_eq _ _)).mp c_165; omega
                    refine lv_aload_n hx hb dX12_unit_113 rfl (lv_at hl 4 rfl) ?_
                    refine mg_32 hx hb ht hown hK hP dX12_unit_114 ?_
                    have q_168 : 0 ≤ (v 32).toInt ∧ (v 32).toInt ≤ 7 := hv 32
                    refine lv_bipush (v := 7) hx hb dX12_unit_117 (by decide) ?_
                    refine lv_icmp_ne (tgt := 126) hx hb dX12_unit_119 (by decide) (fun c_169 => ?_) (fun c_169 => ?_)
                    · have q_170 : ¬ (v 32).toInt = (7 : Int32).toInt := by have := (not_congr (ow_eq _ _)).mp c_169; omega
                      refine W.widen (k := 0) (n := 0) (Nat.le_of_ble_eq_true rfl) (Nat.le_of_ble_eq_true rfl) ?_
                      exact jn_5 v nm _ _ _ hv hW_5 (show (v 4).toInt ≠ 0 ∨ ((v 8).toInt ≠ 0 ∧ (y0_2.toInt = 1 ∨ (f 13 (Int32.toNatClampNeg (v 30))).toInt ≠ 60) ∧ ((y0_2.toInt = 0 ∧ r_u_3.toInt = 0) ∨ (v 32).toInt ≠ 7)) from by omega) hP hD hS (lv_sub hl [0, 1, 2, 3, 4] rfl)
                    · have q_171 : (v 32).toInt = (7 : Int32).toInt := (ow_eq _ _).mp c_169
                      refine lv_aload_n hx hb dX12_unit_122 rfl (lv_at hl 4 rfl) ?_
                      have hFc := fr_free hD hS hA
                      refine va_callv (va_runV (As := []) (rest := []) ⟨hx, hb, hml, hown, ht⟩ (m_misplaced l G cy _ mo h T v nm f g   hv hf hR hL) (cwV 0 ht (gv k_228 k_229 k_230 k_61 k_227) rfl rfl rfl (by decide +kernel) ⟨Nat.le_of_ble_eq_true rfl, Nat.le_of_ble_eq_true rfl⟩) ⟨En.blind, va_recv hK hP (ci := 12) (q0 := 0) rfl rfl, fun U hU hW => ⟨rfl, En.of hU hW hP hK hD hN⟩⟩ rfl rfl hl.1 rfl (lv_room (Nat.le_of_ble_eq_true rfl)) dX12_unit_123 ⟨Nat.le_of_ble_eq_true rfl, Nat.le_of_ble_eq_true rfl⟩) hS (fun q _ h => hFc q h) hFc (fun u_172 t9 H locs ht9 hvm hw hB hz1 hk1 hS => ?_)
                      obtain ⟨v172, nm172⟩ := u_172
                      obtain ⟨hP1, hD1⟩ := hB
                      rw [ht9] at hP1
                      obtain ⟨hv, xu_172V, wu_172⟩ := hw
                      dsimp only at hv xu_172V wu_172
                      have hP : va_P G vwCl (WMs cy mo h v172 nm172 f g) H := hP1
                      have hD : va_D A (WMs cy mo h v172 nm172 f g) := hD1.weaken (fun _ _ _ h => hFc _ h)
                      have hR : RI v172 f := RI.fv hR xu_172V (by decide)
                      have hL : WL v172 f := WL.fv hL xu_172V (by decide) (by decide)
                      have hV_0 := FV.tr hV_0 xu_172V (by decide)
                      have hW_5 := FV.tr hW_5 xu_172V (by decide)
                      clear hFc hk1 hz1 hP1 hD1
                      have wu_172 : (1 ≤ (v172 4).toInt) := wu_172
                      refine W.widen (k := 0) (n := 0) (Nat.le_of_ble_eq_true rfl) (Nat.le_of_ble_eq_true rfl) ?_
                      exact jn_5 v172 nm172 _ _ _ hv hW_5 (show (v172 4).toInt ≠ 0 ∨ ((v 8).toInt ≠ 0 ∧ (y0_2.toInt = 1 ∨ (f 13 (Int32.toNatClampNeg (v 30))).toInt ≠ 60) ∧ ((y0_2.toInt = 0 ∧ r_u_3.toInt = 0) ∨ (v 32).toInt ≠ 7)) from by omega) hP hD hS (lv_sub hl [0, 1, 2, 3, 4] rfl)
    refine lv_iload_n hx hb dX12_unit_37 rfl (lv_at hl 0 rfl) ?_
    refine lv_if_eq (tgt := 55) hx hb dX12_unit_38 (by decide) (fun c_173 => ?_) (fun c_173 => ?_)
    · have q_174 : y0_1.toInt = (0 : Int32).toInt := (ow_eq _ _).mp c_173
      refine lv_iconst (v := 0) hx hb dX12_unit_55 (by decide) ?_
      refine W.widen (k := 0) (n := 0) (Nat.le_of_ble_eq_true rfl) (Nat.le_of_ble_eq_true rfl) ?_
      exact jn_2 (0) _ _ _ (by omega) (by omega) hP hD hS (lv_sub hl [0, 1] rfl)
    · have q_175 : ¬ y0_1.toInt = (0 : Int32).toInt := by have := (not_congr (ow_eq _ _)).mp c_173; omega
      refine lv_aload_n hx hb dX12_unit_41 rfl (lv_at hl 1 rfl) ?_
      refine lv_ldc2 (v := 7237492) hx hb hown (ht _ k_197) dX12_unit_42 ?_
      have hFc := fr_new hS hA
      refine va_calli (va_runV (As := [.long (7237492 : Int64)]) (rest := []) ⟨hx, hb, hml, hown, ht⟩ (m_isWord l G cy _ mo h T v nm f g (7237492 : Int64)  hv hf hR hL) (cwV 1 ht (gv k_240 k_241 k_242 k_61 k_239) rfl rfl rfl (by decide +kernel) ⟨Nat.le_of_ble_eq_true rfl, Nat.le_of_ble_eq_true rfl⟩) ⟨En.blind, va_recv hK hP (ci := 12) (q0 := 0) rfl rfl, fun U hU hW => ⟨rfl, En.of hU hW hP hK hD hN⟩⟩ rfl rfl hl.1 rfl (lv_room (Nat.le_of_ble_eq_true rfl)) dX12_unit_45 ⟨Nat.le_of_ble_eq_true rfl, Nat.le_of_ble_eq_true rfl⟩) hS (fun q _ h => hFc q h) hFc (fun r_u_176 u_176 t9 H locs ht9 hvm hw hB hz1 hk1 hS => ?_)
      have hP := fr_keep hP hk1
      obtain ⟨wu_176, xu_176_W⟩ := hw
      clear hFc hk1 hz1 hB
      have wu_176 : (r_u_176.toInt = 0 ∨ r_u_176.toInt = 1) ∧ (r_u_176.toInt = 0 ∨ (v 8).toInt = 3) := wu_176
      have xu_176_W : (r_u_176.toInt = 1 → nm = (7237492 : Int64)) ∧ (r_u_176.toInt = 0 → (v 8).toInt = 3 → ¬ nm = (7237492 : Int64)) := by
        have h9 : (r_u_176.toInt = 1 → nm = (7237492 : Int64)) ∧ (r_u_176.toInt = 0 → (v 8).toInt = 3 → ¬ nm = (7237492 : Int64)) := xu_176_W
        exact h9
      refine lv_if_eq (tgt := 55) hx hb dX12_unit_48 (by decide) (fun c_177 => ?_) (fun c_177 => ?_)
      · have q_178 : r_u_176.toInt = (0 : Int32).toInt := (ow_eq _ _).mp c_177
        refine lv_iconst (v := 0) hx hb dX12_unit_55 (by decide) ?_
        refine W.widen (k := 0) (n := 0) (Nat.le_of_ble_eq_true rfl) (Nat.le_of_ble_eq_true rfl) ?_
        exact jn_2 (0) _ _ _ (by omega) (by omega) hP hD hS (lv_sub hl [0, 1] rfl)
      · have q_179 : ¬ r_u_176.toInt = (0 : Int32).toInt := by have := (not_congr (ow_eq _ _)).mp c_177; omega
        refine lv_iconst (v := 1) hx hb dX12_unit_51 (by decide) ?_
        refine lv_goto (tgt := 56) hx hb dX12_unit_52 (by decide) ?_
        refine W.widen (k := 0) (n := 0) (Nat.le_of_ble_eq_true rfl) (Nat.le_of_ble_eq_true rfl) ?_
        exact jn_2 (1) _ _ _ (by omega) (by omega) hP hD hS (lv_sub hl [0, 1] rfl)
  have hmz0 : 0 ≤ mz (v 3).toInt (v 7).toInt (v 8).toInt := mz_nn he
  have rg4 : 0 ≤ (v 4).toInt ∧ (v 4).toInt ≤ 5 := hv 4
  have rg29 : 0 ≤ (v 29).toInt ∧ (v 29).toInt ≤ 1 := hv 29
  have rg30 : 0 ≤ (v 30).toInt ∧ (v 30).toInt ≤ 1 := hv 30
  have rg31 : 0 ≤ (v 31).toInt ∧ (v 31).toInt ≤ 1200 := hv 31
  have rg32 : 0 ≤ (v 32).toInt ∧ (v 32).toInt ≤ 7 := hv 32
  have rg33 : 0 ≤ (v 33).toInt ∧ (v 33).toInt ≤ 120 := hv 33
  have rgU : 0 ≤ (f 13 (Int32.toNatClampNeg (v 30))).toInt ∧ (f 13 (Int32.toNatClampNeg (v 30))).toInt ≤ 60 := hf 13 _ (show (Int32.toNatClampNeg (v 30)) < 2 from by rw [ow_tn]; omega)
  have hEn := hE.num (Or.inr rfl)
  refine lv_aload_n hx hb dX12_unit_0 rfl (lv_at hl 0 rfl) ?_
  refine mg_26 hx hb ht hown hK hP dX12_unit_1 ?_
  refine lv_aload_n hx hb dX12_unit_4 rfl (lv_at hl 0 rfl) ?_
  refine mg_33 hx hb ht hown hK hP dX12_unit_5 ?_
  have q_180 : 0 ≤ (v 33).toInt ∧ (v 33).toInt ≤ 120 := hv 33
  refine lv_iconst (v := 1) hx hb dX12_unit_8 (by decide) ?_
  refine lv_isub hx hb dX12_unit_9 ?_
  refine lv_topi (fun v_181 ev_181 => ?_)
  have q_182 : v_181.toInt = (v 33).toInt - (1 : Int32).toInt := ow_sub ev_181 (by omega) (by omega)
  have q_183 : vp_in v_181 120 := vp_in_iff.mpr ⟨by omega, by omega⟩
  refine ml_26 hx hb hK hP q_183 dX12_unit_10 ?_
  refine lv_topi (fun v_184 ev_184 => ?_)
  have q_185 : v_184.toInt = ((f 26) (Int32.toNatClampNeg v_181)).toInt := (congrArg Int32.toInt ev_184).trans (congrArg (fun z : Nat → Int32 => (z (Int32.toNatClampNeg v_181)).toInt) (show f 26 = (f 26) from rfl))
  refine lv_iconst (v := 3) hx hb dX12_unit_11 (by decide) ?_
  refine lv_icmp_le (tgt := 31) hx hb dX12_unit_12 (by decide) (fun c_186 => ?_) (fun c_186 => ?_)
  · have q_187 : v_184.toInt ≤ (3 : Int32).toInt := (ow_le _ _).mp c_186
    refine lv_iconst (v := 1) hx hb dX12_unit_31 (by decide) ?_
    refine lv_goto (tgt := 36) hx hb dX12_unit_32 (by decide) ?_
    refine W.widen (k := 0) (n := 0) (Nat.le_of_ble_eq_true rfl) (Nat.le_of_ble_eq_true rfl) ?_
    exact jn_1 (1) _ _ _ (by omega) hP hD hS (lv_sub hl [0] rfl)
  · have q_188 : (3 : Int32).toInt < v_184.toInt := by have := (not_congr (ow_le _ _)).mp c_186; omega
    refine lv_aload_n hx hb dX12_unit_15 rfl (lv_at hl 0 rfl) ?_
    refine mg_26 hx hb ht hown hK hP dX12_unit_16 ?_
    refine lv_aload_n hx hb dX12_unit_19 rfl (lv_at hl 0 rfl) ?_
    refine mg_33 hx hb ht hown hK hP dX12_unit_20 ?_
    refine lv_iconst (v := 1) hx hb dX12_unit_23 (by decide) ?_
    refine lv_isub hx hb dX12_unit_24 ?_
    refine lv_topi (fun v_189 ev_189 => ?_)
    have q_190 : v_189.toInt = (v 33).toInt - (1 : Int32).toInt := ow_sub ev_189 (by omega) (by omega)
    have q_191 : vp_in v_189 120 := vp_in_iff.mpr ⟨by omega, by omega⟩
    refine ml_26 hx hb hK hP q_191 dX12_unit_25 ?_
    refine lv_topi (fun v_192 ev_192 => ?_)
    have q_193 : v_192.toInt = ((f 26) (Int32.toNatClampNeg v_189)).toInt := (congrArg Int32.toInt ev_192).trans (congrArg (fun z : Nat → Int32 => (z (Int32.toNatClampNeg v_189)).toInt) (show f 26 = (f 26) from rfl))
    refine lv_bipush (v := 6) hx hb dX12_unit_26 (by decide) ?_
    refine lv_icmp_lt (tgt := 35) hx hb dX12_unit_28 (by decide) (fun c_194 => ?_) (fun c_194 => ?_)
    · have q_195 : v_192.toInt < (6 : Int32).toInt := (ow_lt _ _).mp c_194
      refine lv_iconst (v := 0) hx hb dX12_unit_35 (by decide) ?_
      refine W.widen (k := 0) (n := 0) (Nat.le_of_ble_eq_true rfl) (Nat.le_of_ble_eq_true rfl) ?_
      exact jn_1 (0) _ _ _ (by omega) hP hD hS (lv_sub hl [0] rfl)
    · have q_196 : (6 : Int32).toInt ≤ v_192.toInt := by have := (not_congr (ow_lt _ _)).mp c_194; omega
      refine lv_iconst (v := 1) hx hb dX12_unit_31 (by decide) ?_
      refine lv_goto (tgt := 36) hx hb dX12_unit_32 (by decide) ?_
      refine W.widen (k := 0) (n := 0) (Nat.le_of_ble_eq_true rfl) (Nat.le_of_ble_eq_true rfl) ?_
      exact jn_1 (1) _ _ _ (by omega) hP hD hS (lv_sub hl [0] rfl)
set_option maxHeartbeats 4000000 in
set_option maxRecDepth 100000 in
theorem m_behindUnit (l : Launch) (G : va_G) (cy : Nat → ClassId) (sz : Nat) (mo : Nat) (h : Nat → Nat) (T : Int) (v : Nat → Int32) (nm : Int64) (f : Nat → Nat → Int32) (g : Nat → Nat → Int64)  (Fz : Int) (hv : MIv T v) (hf : MIf f) (hR : RI v f) (hL : WL v f) (he : (v 7).toInt ≤ (v 3).toInt) (hE : EI 0 (v 30).toInt Fz (v 31).toInt (v 33).toInt (v 32).toInt (f 13 (Int32.toNatClampNeg (v 30))).toInt (f 26) (f 27) (f 24) (f 25)) (hfk : (v 4).toInt = 0) (hp1 : 1 ≤ (v 33).toInt) (hrb : (v 30).toInt + (v 29).toInt = 1) : Met l yX12_behindUnit (.code yX12_behindUnit cX12_behindUnit 2 (some .boolean) :: TBg) ({ frames := 4, cells := 0, slots := 0, locals := 256 }) (va_Pc [.ref mo] (En G cy (WMs cy mo h v nm f g) sz)) (va_Qi (fun (r : Int32) (u : (Nat → Int32) × Int64 × (Nat → Nat → Int32) × (Nat → Nat → Int64)) => MIv T u.1 ∧ MIf u.2.2.1 ∧ RI u.1 u.2.2.1 ∧ WL u.1 u.2.2.1 ∧ FV [4, 5, 6, 7, 8, 9, 31, 32, 33] v u.1 ∧ FF [24, 25, 26, 27] f u.2.2.1 ∧ ((r.toInt = 0 ∨ r.toInt = 1) ∧ ((u.1 7).toInt ≤ (v 3).toInt)) ∧ (0 ≤ mz (v 3).toInt (u.1 7).toInt (u.1 8).toInt ∧ mz (v 3).toInt (u.1 7).toInt (u.1 8).toInt ≤ mz (v 3).toInt (v 7).toInt (v 8).toInt ∧ ((u.1 4).toInt ≠ 0 ∨ mz (v 3).toInt (u.1 7).toInt (u.1 8).toInt < mz (v 3).toInt (v 7).toInt (v 8).toInt ∨ (u.1 33).toInt < (v 33).toInt)) ∧ ((u.1 4).toInt = 0 → EI r.toInt (v 30).toInt Fz (u.1 31).toInt (u.1 33).toInt (u.1 32).toInt (f 13 (Int32.toNatClampNeg (v 30))).toInt (u.2.2.1 26) (u.2.2.1 27) (u.2.2.1 24) (u.2.2.1 25)) ∧ (OUT Fz (600 * (v 30).toInt + 600) (f 24) (f 25) (u.2.2.1 24) (u.2.2.1 25))) (fun u t => Ex G (va_A (WMs cy mo h v nm f g) sz) (WMs cy mo h u.1 u.2.1 u.2.2.1 u.2.2.2) t) (va_A (WMs cy mo h v nm f g) sz)) 0 0 (va_A (WMs cy mo h v nm f g) sz) := by
  refine Met.ofW (cc := cX12_behindUnit) (maxL := 2) (ret := (some .boolean)) (by decide) rfl ?_
  intro p e s m args below meth c s₁ B hml hv9
  obtain ⟨rfl, hsz, hP, hK, hD0, hN⟩ := hv9
  have hx := B.exec
  have hb := B.bytes
  have hr := B.returns
  have hts := atoms_spec (ws := .code yX12_behindUnit cX12_behindUnit 2 (some .boolean) :: TBg) B.pre
  have ht : ∀ w ∈ TBg, w.before _ s = true := fun w h => hts w (List.mem_cons_of_mem _ h)
  have hown : s.vm.findClass RX12 = some m.cls := findClass_of_methodNamed B.named
  have hlocks := B.notSynchronized
  subst hsz
  have hD := hD0.self (sz := s.heap.size)
  generalize hAe : va_A (WMs cy mo h v nm f g) s.heap.size = A at hD ⊢
  have hA : ∀ q : Nat, s.heap.size ≤ q → A q := fun q h => by rw [← hAe]; exact Or.inr h
  have hS : va_S A s.heap s.heap [] := va_S.rf
  have hl := lv_entry ([.ref mo]) (n := 2) (Nat.le_of_ble_eq_true rfl)
  rw [lg_entry_eq]
  generalize (lg_sl ([.ref mo]) ++ List.replicate (2 - (lg_sl ([.ref mo])).length) Slot.unset).toArray = ls at hl ⊢
  have hl : lv_has ls 2 [(0, .ref mo)] := hl
  have z0 : (0 : Int32).toInt = 0 := by decide
  have z1 : (1 : Int32).toInt = 1 := by decide
  have z2 : (2 : Int32).toInt = 2 := by decide
  have z3 : (3 : Int32).toInt = 3 := by decide
  have z4 : (4 : Int32).toInt = 4 := by decide
  have z5 : (5 : Int32).toInt = 5 := by decide
  have z6 : (6 : Int32).toInt = 6 := by decide
  have z7 : (38 : Int32).toInt = 38 := by decide
  have z8 : (41 : Int32).toInt = 41 := by decide
  have z9 : (124 : Int32).toInt = 124 := by decide
  have hf_0 := hf
  have hV_0 : FV [4, 5, 6, 7, 8, 9, 31, 32, 33] v v := FV.rf
  have hF_0 : FF [24, 25, 26, 27] f f := FF.rf
  have hmz0 : 0 ≤ mz (v 3).toInt (v 7).toInt (v 8).toInt := mz_nn he
  have rg4 : 0 ≤ (v 4).toInt ∧ (v 4).toInt ≤ 5 := hv 4
  have rg29 : 0 ≤ (v 29).toInt ∧ (v 29).toInt ≤ 1 := hv 29
  have rg30 : 0 ≤ (v 30).toInt ∧ (v 30).toInt ≤ 1 := hv 30
  have rg31 : 0 ≤ (v 31).toInt ∧ (v 31).toInt ≤ 1200 := hv 31
  have rg32 : 0 ≤ (v 32).toInt ∧ (v 32).toInt ≤ 7 := hv 32
  have rg33 : 0 ≤ (v 33).toInt ∧ (v 33).toInt ≤ 120 := hv 33
  have rgU : 0 ≤ (f 13 (Int32.toNatClampNeg (v 30))).toInt ∧ (f 13 (Int32.toNatClampNeg (v 30))).toInt ≤ 60 := hf 13 _ (show (Int32.toNatClampNeg (v 30)) < 2 from by rw [ow_tn]; omega)
  have hEn := hE.num (Or.inl rfl)
  have h70 : (f 26 0).toInt = 7 := hE.e0 hp1
  refine lv_aload_n hx hb dX12_behindUnit_0 rfl (lv_at hl 0 rfl) ?_
  have hFc := fr_new hS hA
  refine va_calli (va_runV (As := []) (rest := []) ⟨hx, hb, hml, hown, ht⟩ (m_rankHere l G cy _ mo h T v nm f g   hv hf hR hL) (cwV 0 ht (gv k_264 k_265 k_266 k_61 k_263) rfl rfl rfl (by decide +kernel) ⟨Nat.le_of_ble_eq_true rfl, Nat.le_of_ble_eq_true rfl⟩) ⟨En.blind, va_recv hK hP (ci := 12) (q0 := 0) rfl rfl, fun U hU hW => ⟨rfl, En.of hU hW hP hK hD hN⟩⟩ rfl rfl hl.1 rfl (lv_room (Nat.le_of_ble_eq_true rfl)) dX12_behindUnit_1 ⟨Nat.le_of_ble_eq_true rfl, Nat.le_of_ble_eq_true rfl⟩) hS (fun q _ h => hFc q h) hFc (fun r_u_1 u_1 t9 H locs ht9 hvm hw hB hz1 hk1 hS => ?_)
  have hP := fr_keep hP hk1
  have wu_1 := hw
  clear hFc hk1 hz1 hB hw
  refine lv_istore_n (lv' := [(1, .int r_u_1), (0, .ref mo)]) hx hb dX12_behindUnit_4 rfl hl (by decide) rfl (fun ls hl => ?_)
  refine W.widen (k := 0) (n := 0) (Nat.le_of_ble_eq_true rfl) (Nat.le_of_ble_eq_true rfl) ?_
  have jn_2 : ∀  (H : Heap) (locs : List Loc) (ls : Array Slot), va_P G vwCl (WMs cy mo h v nm f g) H → va_D A (WMs cy mo h v nm f g) → va_S A s.heap H locs → lv_has ls 2 [(1, .int r_u_1), (0, .ref mo)] → W p l e (headSpec (.code yX12_behindUnit cX12_behindUnit 2 (some .boolean) :: TBg) ({ frames := 4, cells := 0, slots := 0, locals := 256 })).room s m ([.ref mo] : List Value).toArray below meth c H locs 0 0 (MQ below (va_Qi (fun (r : Int32) (u : (Nat → Int32) × Int64 × (Nat → Nat → Int32) × (Nat → Nat → Int64)) => MIv T u.1 ∧ MIf u.2.2.1 ∧ RI u.1 u.2.2.1 ∧ WL u.1 u.2.2.1 ∧ FV [4, 5, 6, 7, 8, 9, 31, 32, 33] v u.1 ∧ FF [24, 25, 26, 27] f u.2.2.1 ∧ ((r.toInt = 0 ∨ r.toInt = 1) ∧ ((u.1 7).toInt ≤ (v 3).toInt)) ∧ (0 ≤ mz (v 3).toInt (u.1 7).toInt (u.1 8).toInt ∧ mz (v 3).toInt (u.1 7).toInt (u.1 8).toInt ≤ mz (v 3).toInt (v 7).toInt (v 8).toInt ∧ ((u.1 4).toInt ≠ 0 ∨ mz (v 3).toInt (u.1 7).toInt (u.1 8).toInt < mz (v 3).toInt (v 7).toInt (v 8).toInt ∨ (u.1 33).toInt < (v 33).toInt)) ∧ ((u.1 4).toInt = 0 → EI r.toInt (v 30).toInt Fz (u.1 31).toInt (u.1 33).toInt (u.1 32).toInt (f 13 (Int32.toNatClampNeg (v 30))).toInt (u.2.2.1 26) (u.2.2.1 27) (u.2.2.1 24) (u.2.2.1 25)) ∧ (OUT Fz (600 * (v 30).toInt + 600) (f 24) (f 25) (u.2.2.1 24) (u.2.2.1 25))) (fun u t => Ex G A (WMs cy mo h u.1 u.2.1 u.2.2.1 u.2.2.2) t) A) ([.ref mo] : List Value).toArray s 0 0 A) (F0 m 23 ls []) := by
    intro H locs ls hP hD hS hl
    refine W.widen (k := 0) (n := 0) (Nat.le_of_ble_eq_true rfl) (Nat.le_of_ble_eq_true rfl) ?_
    have lp_3 : ∀ (N_3 : Nat) (v3 : Nat → Int32) (nm3 : Int64) (f3 : Nat → Nat → Int32) (g3 : Nat → Nat → Int64) (H : Heap) (locs : List Loc) (ls : Array Slot), MIv T v3 → MIf f3 → RI v3 f3 → WL v3 f3 → FV [31, 32, 33] v v3 → FF [24, 25] f f3 → (EI 0 (v 30).toInt Fz (v3 31).toInt (v3 33).toInt (v3 32).toInt ((f 13) (Int32.toNatClampNeg (v 30))).toInt (f 26) (f 27) (f3 24) (f3 25)) → (OUT Fz (600 * (v 30).toInt + 600) (f 24) (f 25) (f3 24) (f3 25)) → (1 ≤ (v3 33).toInt ∧ (v3 33).toInt ≤ (v 33).toInt) → ((v3 33).toInt).toNat < N_3 → va_P G vwCl (WMs cy mo h v3 nm3 f3 g3) H → va_D A (WMs cy mo h v3 nm3 f3 g3) → va_S A s.heap H locs → lv_has ls 2 [(1, .int r_u_1), (0, .ref mo)] → W p l e (headSpec (.code yX12_behindUnit cX12_behindUnit 2 (some .boolean) :: TBg) ({ frames := 4, cells := 0, slots := 0, locals := 256 })).room s m ([.ref mo] : List Value).toArray below meth c H locs 0 0 (MQ below (va_Qi (fun (r : Int32) (u : (Nat → Int32) × Int64 × (Nat → Nat → Int32) × (Nat → Nat → Int64)) => MIv T u.1 ∧ MIf u.2.2.1 ∧ RI u.1 u.2.2.1 ∧ WL u.1 u.2.2.1 ∧ FV [4, 5, 6, 7, 8, 9, 31, 32, 33] v u.1 ∧ FF [24, 25, 26, 27] f u.2.2.1 ∧ ((r.toInt = 0 ∨ r.toInt = 1) ∧ ((u.1 7).toInt ≤ (v 3).toInt)) ∧ (0 ≤ mz (v 3).toInt (u.1 7).toInt (u.1 8).toInt ∧ mz (v 3).toInt (u.1 7).toInt (u.1 8).toInt ≤ mz (v 3).toInt (v 7).toInt (v 8).toInt ∧ ((u.1 4).toInt ≠ 0 ∨ mz (v 3).toInt (u.1 7).toInt (u.1 8).toInt < mz (v 3).toInt (v 7).toInt (v 8).toInt ∨ (u.1 33).toInt < (v 33).toInt)) ∧ ((u.1 4).toInt = 0 → EI r.toInt (v 30).toInt Fz (u.1 31).toInt (u.1 33).toInt (u.1 32).toInt (f 13 (Int32.toNatClampNeg (v 30))).toInt (u.2.2.1 26) (u.2.2.1 27) (u.2.2.1 24) (u.2.2.1 25)) ∧ (OUT Fz (600 * (v 30).toInt + 600) (f 24) (f 25) (u.2.2.1 24) (u.2.2.1 25))) (fun u t => Ex G A (WMs cy mo h u.1 u.2.1 u.2.2.1 u.2.2.2) t) A) ([.ref mo] : List Value).toArray s 0 0 A) (F0 m 23 ls []) := by
      intro N_3
      induction N_3 with
      | zero => intro v3 nm3 f3 g3 H locs ls hv hf hR hL hV_3 hF_3 qf3_0 qf3_1 qf3_2 hm hP hD hS hl; exact absurd hm (Nat.not_lt_zero _)
      | succ N_3 ih_3 =>
        intro v3 nm3 f3 g3 H locs ls hv hf hR hL hV_3 hF_3 qf3_0 qf3_1 qf3_2 hm hP hD hS hl
        have hV_0 := FV.tr hV_0 hV_3 (by decide)
        have hF_0 := FF.tr hF_0 hF_3 (by decide)
        have hW_3 := hV_3
        have hY_3 := hF_3
        have rq32 : 0 ≤ (v3 32).toInt ∧ (v3 32).toInt ≤ 7 := hv 32
        have rq31 : 0 ≤ (v3 31).toInt ∧ (v3 31).toInt ≤ 1200 := hv 31
        have hEm := qf3_0.num (Or.inl rfl)
        refine lv_aload_n hx hb dX12_behindUnit_23 rfl (lv_at hl 1 rfl) ?_
        refine mg_26 hx hb ht hown hK hP dX12_behindUnit_24 ?_
        refine lv_aload_n hx hb dX12_behindUnit_27 rfl (lv_at hl 1 rfl) ?_
        refine mg_33 hx hb ht hown hK hP dX12_behindUnit_28 ?_
        have q_4 : 0 ≤ (v3 33).toInt ∧ (v3 33).toInt ≤ 120 := hv 33
        refine lv_iconst (v := 1) hx hb dX12_behindUnit_31 (by decide) ?_
        refine lv_isub hx hb dX12_behindUnit_32 ?_
        refine lv_topi (fun v_5 ev_5 => ?_)
        have q_6 : v_5.toInt = (v3 33).toInt - (1 : Int32).toInt := ow_sub ev_5 (by omega) (by omega)
        have q_7 : vp_in v_5 120 := vp_in_iff.mpr ⟨by omega, by omega⟩
        refine ml_26 hx hb hK hP q_7 dX12_behindUnit_33 ?_
        refine lv_topi (fun v_8 ev_8 => ?_)
        have q_9 : v_8.toInt = ((f 26) (Int32.toNatClampNeg v_5)).toInt := (congrArg Int32.toInt ev_8).trans (congrArg (fun z : Nat → Int32 => (z (Int32.toNatClampNeg v_5)).toInt) (show f3 26 = (f 26) from (hF_3 26 (by decide))))
        refine lv_iconst (v := 5) hx hb dX12_behindUnit_34 (by decide) ?_
        refine lv_icmp_gt (tgt := 103) hx hb dX12_behindUnit_35 (by decide) (fun c_10 => ?_) (fun c_10 => ?_)
        · have q_11 : (5 : Int32).toInt < v_8.toInt := (ow_lt _ _).mp c_10
          refine lv_iload_n hx hb dX12_behindUnit_103 rfl (lv_at hl 0 rfl) ?_
          refine lv_if_le (tgt := 146) hx hb dX12_behindUnit_104 (by decide) (fun c_12 => ?_) (fun c_12 => ?_)
          · have q_13 : r_u_1.toInt ≤ (0 : Int32).toInt := (ow_le _ _).mp c_12
            have x1 : (f 26 (Int32.toNatClampNeg v_5)).toInt = (f 26 ((v3 33).toInt.toNat - 1)).toInt := by rw [show (Int32.toNatClampNeg v_5) = (v3 33).toInt.toNat - 1 from by rw [ow_tn]; omega]
            have hok9 := qf3_0.pe ((v3 33).toInt.toNat - 1) (by omega)
            unfold okE at hok9
            refine lv_aload_n hx hb dX12_behindUnit_146 rfl (lv_at hl 1 rfl) ?_
            refine lv_dup hx hb dX12_behindUnit_147 rfl ?_
            refine mg_33 hx hb ht hown hK hP dX12_behindUnit_148 ?_
            refine lv_iconst (v := 1) hx hb dX12_behindUnit_151 (by decide) ?_
            refine lv_isub hx hb dX12_behindUnit_152 ?_
            refine lv_topi (fun v_14 ev_14 => ?_)
            have q_15 : v_14.toInt = (v3 33).toInt - (1 : Int32).toInt := ow_sub ev_14 (by omega) (by omega)
            refine mp_33 hx hb ht hown hK hP hD hS dX12_behindUnit_153 (fun H locs hP hD hS => ?_)
            have hv := MIv.up 33 hv (show 0 ≤ v_14.toInt ∧ v_14.toInt ≤ 120 from by omega)
            have hL : WL (va_up v3 33 v_14) f3 := WL.upv 33 hL (by decide)
            have hR : RI (va_up v3 33 v_14) f3 := RI.upv 33 hR (by decide)
            have hV_0 := FV.up hV_0 33 v_14 (by decide)
            refine lv_aload_n hx hb dX12_behindUnit_156 rfl (lv_at hl 1 rfl) ?_
            refine mg_26 hx hb ht hown hK hP dX12_behindUnit_157 ?_
            refine lv_aload_n hx hb dX12_behindUnit_160 rfl (lv_at hl 1 rfl) ?_
            refine mg_33 hx hb ht hown hK hP dX12_behindUnit_161 ?_
            refine ow_top v_14 rfl ?_
            have q_16 : vp_in v_14 120 := vp_in_iff.mpr ⟨by omega, by omega⟩
            refine ml_26 hx hb hK hP q_16 dX12_behindUnit_164 ?_
            refine lv_topi (fun v_17 ev_17 => ?_)
            have q_18 : v_17.toInt = ((f 26) (Int32.toNatClampNeg v_14)).toInt := (congrArg Int32.toInt ev_17).trans (congrArg (fun z : Nat → Int32 => (z (Int32.toNatClampNeg v_14)).toInt) (show f3 26 = (f 26) from (hF_3 26 (by decide))))
            have x2 : (f 26 (Int32.toNatClampNeg v_14)).toInt = (f 26 ((v3 33).toInt.toNat - 1)).toInt := by rw [show (Int32.toNatClampNeg v_14) = (v3 33).toInt.toNat - 1 from by rw [ow_tn]; omega]
            refine lv_bipush (v := 6) hx hb dX12_behindUnit_165 (by decide) ?_
            refine lv_icmp_ne (tgt := 190) hx hb dX12_behindUnit_167 (by decide) (fun c_19 => ?_) (fun c_19 => ?_)
            · have q_20 : ¬ v_17.toInt = (6 : Int32).toInt := by have := (not_congr (ow_eq _ _)).mp c_19; omega
              refine lv_iconst (v := 0) hx hb dX12_behindUnit_190 (by decide) ?_
              refine W.widen (k := 0) (n := 0) (Nat.le_of_ble_eq_true rfl) (Nat.le_of_ble_eq_true rfl) ?_
              exact W.zret (v := 0) hx hb hr rfl (fun t ht9 hW => ⟨⟨0, ((va_up v3 33 v_14), nm3, f3, g3), rfl, ⟨hv, hf, hR, hL, hV_0, hF_0, ⟨(by omega), (show (v3 7).toInt ≤ (v 3).toInt from by rw [(show v3 7 = (v 7) from (hV_3 7 (by decide)))]; first | omega | (subst_vars; first | rfl | omega))⟩, (show 0 ≤ mz (v 3).toInt (v3 7).toInt (v3 8).toInt ∧ mz (v 3).toInt (v3 7).toInt (v3 8).toInt ≤ mz (v 3).toInt (v 7).toInt (v 8).toInt ∧ ((v3 4).toInt ≠ 0 ∨ mz (v 3).toInt (v3 7).toInt (v3 8).toInt < mz (v 3).toInt (v 7).toInt (v 8).toInt ∨ v_14.toInt < (v 33).toInt) from by rw [(show v3 7 = (v 7) from (hV_3 7 (by decide))), (show v3 8 = (v 8) from (hV_3 8 (by decide))), (show v3 4 = (v 4) from (hV_3 4 (by decide)))]; omega), (show (v3 4).toInt = 0 → EI (0 : Int32).toInt (v 30).toInt Fz (v3 31).toInt v_14.toInt (v3 32).toInt ((f3 13) (Int32.toNatClampNeg (v 30))).toInt (f3 26) (f3 27) (f3 24) (f3 25) from by rw [(show v3 4 = (v 4) from (hV_3 4 (by decide))), (show f3 13 = (f 13) from (hF_3 13 (by decide))), (show f3 26 = (f 26) from (hF_3 26 (by decide))), (show f3 27 = (f 27) from (hF_3 27 (by decide)))]; exact fun h9 => EI.cast (EI.close (w' := (v3 32).toInt) qf3_0 (by omega) (by omega) (by omega)).2 (by omega) (by omega) (by omega) (by omega) rfl), (show OUT Fz (600 * (v 30).toInt + 600) (f 24) (f 25) (f3 24) (f3 25) from by exact qf3_1)⟩, ⟨by rw [ht9]; exact hP, hD⟩⟩, hS.F ht9⟩) hS.2.2 dX12_behindUnit_191
            · have q_21 : v_17.toInt = (6 : Int32).toInt := (ow_eq _ _).mp c_19
              have hw1 := EI.top qf3_0 (by omega) (by omega)
              refine lv_aload_n hx hb dX12_behindUnit_170 rfl (lv_at hl 1 rfl) ?_
              refine lv_dup hx hb dX12_behindUnit_171 rfl ?_
              refine mg_32 hx hb ht hown hK hP dX12_behindUnit_172 ?_
              refine ow_top (v3 32) rfl ?_
              have q_22 : 0 ≤ (v3 32).toInt ∧ (v3 32).toInt ≤ 7 := hv 32
              refine lv_iconst (v := 1) hx hb dX12_behindUnit_175 (by decide) ?_
              refine lv_isub hx hb dX12_behindUnit_176 ?_
              refine lv_topi (fun v_23 ev_23 => ?_)
              have q_24 : v_23.toInt = (v3 32).toInt - (1 : Int32).toInt := ow_sub ev_23 (by omega) (by omega)
              refine mp_32 hx hb ht hown hK hP hD hS dX12_behindUnit_177 (fun H locs hP hD hS => ?_)
              have hv := MIv.up 32 hv (show 0 ≤ v_23.toInt ∧ v_23.toInt ≤ 7 from by omega)
              have hL : WL (va_up (va_up v3 33 v_14) 32 v_23) f3 := WL.upv 32 hL (by decide)
              have hR : RI (va_up (va_up v3 33 v_14) 32 v_23) f3 := RI.upv 32 hR (by decide)
              have hV_0 := FV.up hV_0 32 v_23 (by decide)
              refine lv_aload_n hx hb dX12_behindUnit_180 rfl (lv_at hl 1 rfl) ?_
              refine lv_aload_n hx hb dX12_behindUnit_181 rfl (lv_at hl 1 rfl) ?_
              refine lv_bipush (v := 41) hx hb dX12_behindUnit_182 (by decide) ?_
              have hFc := fr_new hS hA
              refine va_calli (va_runV (As := [.int 41]) (rest := [.ref mo]) ⟨hx, hb, hml, hown, ht⟩ (m_stands l G cy _ mo h T (va_up (va_up v3 33 v_14) 32 v_23) nm3 f3 g3 (41)  hv hf hR hL) (cwV 1 ht (gv k_244 k_245 k_246 k_61 k_243) rfl rfl rfl (by decide +kernel) ⟨Nat.le_of_ble_eq_true rfl, Nat.le_of_ble_eq_true rfl⟩) ⟨En.blind, va_recv hK hP (ci := 12) (q0 := 0) rfl rfl, fun U hU hW => ⟨rfl, En.of hU hW hP hK hD hN⟩⟩ rfl rfl hl.1 rfl (lv_room (Nat.le_of_ble_eq_true rfl)) dX12_behindUnit_184 ⟨Nat.le_of_ble_eq_true rfl, Nat.le_of_ble_eq_true rfl⟩) hS (fun q _ h => hFc q h) hFc (fun r_u_25 u_25 t9 H locs ht9 hvm hw hB hz1 hk1 hS => ?_)
              have hP := fr_keep hP hk1
              have wu_25 := hw
              clear hFc hk1 hz1 hB hw
              have wu_25 : (r_u_25.toInt = 0 ∨ r_u_25.toInt = 1) ∧ (r_u_25.toInt = 0 ∨ (r_u_25.toInt = 1 ∧ (v 8).toInt = 5 ∧ sgn (v 3).toInt (f 1) (v 6).toInt = (41 : Int32).toInt)) := by
                have h9 : (r_u_25.toInt = 0 ∨ r_u_25.toInt = 1) ∧ (r_u_25.toInt = 0 ∨ (r_u_25.toInt = 1 ∧ (v3 8).toInt = 5 ∧ sgn (v3 3).toInt (f3 1) (v3 6).toInt = (41 : Int32).toInt)) := wu_25
                rw [(show v3 8 = (v 8) from (hV_3 8 (by decide))), (show v3 3 = (v 3) from (hV_3 3 (by decide))), (show v3 6 = (v 6) from (hV_3 6 (by decide))), (show f3 1 = (f 1) from (hF_3 1 (by decide)))] at h9
                exact h9
              have hFc := fr_free hD hS hA
              refine va_callv (va_runV (As := [.int r_u_25]) (rest := []) ⟨hx, hb, hml, hown, ht⟩ (m_must l G cy _ mo h T (va_up (va_up v3 33 v_14) 32 v_23) nm3 f3 g3 r_u_25  hv hf hR hL (by omega) (show (v3 7).toInt ≤ (v3 3).toInt from by rw [(show v3 7 = (v 7) from (hV_3 7 (by decide))), (show v3 3 = (v 3) from (hV_3 3 (by decide)))]; omega)) (cwV 1 ht (gv k_268 k_269 k_270 k_61 k_267) rfl rfl rfl (by decide +kernel) ⟨Nat.le_of_ble_eq_true rfl, Nat.le_of_ble_eq_true rfl⟩) ⟨En.blind, va_recv hK hP (ci := 12) (q0 := 0) rfl rfl, fun U hU hW => ⟨rfl, En.of hU hW hP hK hD hN⟩⟩ rfl rfl hl.1 rfl (lv_room (Nat.le_of_ble_eq_true rfl)) dX12_behindUnit_187 ⟨Nat.le_of_ble_eq_true rfl, Nat.le_of_ble_eq_true rfl⟩) hS (fun q _ h => hFc q h) hFc (fun u_26 t9 H locs ht9 hvm hw hB hz1 hk1 hS => ?_)
              obtain ⟨v26, nm26⟩ := u_26
              obtain ⟨hP1, hD1⟩ := hB
              rw [ht9] at hP1
              obtain ⟨hv, xu_26V, wu_26, xu_26_M⟩ := hw
              dsimp only at hv xu_26V wu_26 xu_26_M
              have hP : va_P G vwCl (WMs cy mo h v26 nm26 f3 g3) H := hP1
              have hD : va_D A (WMs cy mo h v26 nm26 f3 g3) := hD1.weaken (fun _ _ _ h => hFc _ h)
              have hR : RI v26 f3 := RI.fv hR xu_26V (by decide)
              have hL : WL v26 f3 := WL.fv hL xu_26V (by decide) (by decide)
              have hV_0 := FV.tr hV_0 xu_26V (by decide)
              clear hFc hk1 hz1 hP1 hD1
              have wu_26 : ((v26 7).toInt ≤ (v 3).toInt ∧ ((v26 4).toInt ≠ 0 ∨ (v 4).toInt = 0)) := by
                have h9 : ((v26 7).toInt ≤ (v3 3).toInt ∧ ((v26 4).toInt ≠ 0 ∨ (v3 4).toInt = 0)) := wu_26
                rw [(show v3 3 = (v 3) from (hV_3 3 (by decide))), (show v3 4 = (v 4) from (hV_3 4 (by decide)))] at h9
                exact h9
              have xu_26_M : 0 ≤ mz (v 3).toInt (v26 7).toInt (v26 8).toInt ∧ mz (v 3).toInt (v26 7).toInt (v26 8).toInt ≤ mz (v 3).toInt (v 7).toInt (v 8).toInt := by
                have h9 : 0 ≤ mz (v3 3).toInt (v26 7).toInt (v26 8).toInt ∧ mz (v3 3).toInt (v26 7).toInt (v26 8).toInt ≤ mz (v3 3).toInt (v3 7).toInt (v3 8).toInt := xu_26_M
                rw [(show v3 3 = (v 3) from (hV_3 3 (by decide))), (show v3 7 = (v 7) from (hV_3 7 (by decide))), (show v3 8 = (v 8) from (hV_3 8 (by decide)))] at h9
                exact h9
              refine lv_iconst (v := 0) hx hb dX12_behindUnit_190 (by decide) ?_
              refine W.widen (k := 0) (n := 0) (Nat.le_of_ble_eq_true rfl) (Nat.le_of_ble_eq_true rfl) ?_
              exact W.zret (v := 0) hx hb hr rfl (fun t ht9 hW => ⟨⟨0, (v26, nm26, f3, g3), rfl, ⟨hv, hf, hR, hL, hV_0, hF_0, ⟨(by omega), (show (v26 7).toInt ≤ (v 3).toInt from by first | omega | (subst_vars; first | rfl | omega))⟩, (show 0 ≤ mz (v 3).toInt (v26 7).toInt (v26 8).toInt ∧ mz (v 3).toInt (v26 7).toInt (v26 8).toInt ≤ mz (v 3).toInt (v 7).toInt (v 8).toInt ∧ ((v26 4).toInt ≠ 0 ∨ mz (v 3).toInt (v26 7).toInt (v26 8).toInt < mz (v 3).toInt (v 7).toInt (v 8).toInt ∨ (v26 33).toInt < (v 33).toInt) from by rw [(show v26 33 = v_14 from (xu_26V 33 (by decide)))]; omega), (show (v26 4).toInt = 0 → EI (0 : Int32).toInt (v 30).toInt Fz (v26 31).toInt (v26 33).toInt (v26 32).toInt ((f3 13) (Int32.toNatClampNeg (v 30))).toInt (f3 26) (f3 27) (f3 24) (f3 25) from by rw [(show v26 31 = (v3 31) from (xu_26V 31 (by decide))), (show v26 33 = v_14 from (xu_26V 33 (by decide))), (show v26 32 = v_23 from (xu_26V 32 (by decide))), (show f3 13 = (f 13) from (hF_3 13 (by decide))), (show f3 26 = (f 26) from (hF_3 26 (by decide))), (show f3 27 = (f 27) from (hF_3 27 (by decide)))]; exact fun h9 => EI.cast (EI.close (w' := v_23.toInt) qf3_0 (by omega) (by omega) (by omega)).2 (by omega) (by omega) (by omega) (by omega) rfl), (show OUT Fz (600 * (v 30).toInt + 600) (f 24) (f 25) (f3 24) (f3 25) from by exact qf3_1)⟩, ⟨by rw [ht9]; exact hP, hD⟩⟩, hS.F ht9⟩) hS.2.2 dX12_behindUnit_191
          · have q_27 : (0 : Int32).toInt < r_u_1.toInt := by have := (not_congr (ow_le _ _)).mp c_12; omega
            refine lv_aload_n hx hb dX12_behindUnit_107 rfl (lv_at hl 1 rfl) ?_
            refine lv_iload_n hx hb dX12_behindUnit_108 rfl (lv_at hl 0 rfl) ?_
            refine lv_iload_n hx hb dX12_behindUnit_109 rfl (lv_at hl 0 rfl) ?_
            refine lv_iconst (v := 2) hx hb dX12_behindUnit_110 (by decide) ?_
            refine lv_icmp_ne (tgt := 119) hx hb dX12_behindUnit_111 (by decide) (fun c_28 => ?_) (fun c_28 => ?_)
            · have q_29 : ¬ r_u_1.toInt = (2 : Int32).toInt := by have := (not_congr (ow_eq _ _)).mp c_28; omega
              refine lv_iload_n hx hb dX12_behindUnit_119 rfl (lv_at hl 0 rfl) ?_
              refine lv_iconst (v := 1) hx hb dX12_behindUnit_120 (by decide) ?_
              refine lv_icmp_ne (tgt := 129) hx hb dX12_behindUnit_121 (by decide) (fun c_30 => ?_) (fun c_30 => ?_)
              · have q_31 : ¬ r_u_1.toInt = (1 : Int32).toInt := by have := (not_congr (ow_eq _ _)).mp c_30; omega
                refine lv_aload_n hx hb dX12_behindUnit_129 rfl (lv_at hl 1 rfl) ?_
                refine lv_aload_n hx hb dX12_behindUnit_130 rfl (lv_at hl 1 rfl) ?_
                refine mg_6 hx hb ht hown hK hP dX12_behindUnit_131 ?_
                refine ow_top (v 6) (hV_3 6 (by decide)) ?_
                have q_32 : 0 ≤ (v 6).toInt ∧ (v 6).toInt ≤ 1700 := by have h9 : v3 6 = (v 6) := (hV_3 6 (by decide)); rw [← h9]; exact hv 6
                have hFc := fr_new hS hA
                refine va_calli (va_runV (As := [.int (v 6)]) (rest := [.int r_u_1, .ref mo]) ⟨hx, hb, hml, hown, ht⟩ (m_sign l G cy _ mo h T v3 nm3 f3 g3 (v 6)  hv hf hR hL (by omega)) (cwV 1 ht (gv k_207 k_208 k_209 k_61 k_206) rfl rfl rfl (by decide +kernel) ⟨Nat.le_of_ble_eq_true rfl, Nat.le_of_ble_eq_true rfl⟩) ⟨En.blind, va_recv hK hP (ci := 12) (q0 := 0) rfl rfl, fun U hU hW => ⟨rfl, En.of hU hW hP hK hD hN⟩⟩ rfl rfl hl.1 rfl (lv_room (Nat.le_of_ble_eq_true rfl)) dX12_behindUnit_134 ⟨Nat.le_of_ble_eq_true rfl, Nat.le_of_ble_eq_true rfl⟩) hS (fun q _ h => hFc q h) hFc (fun r_u_33 u_33 t9 H locs ht9 hvm hw hB hz1 hk1 hS => ?_)
                have hP := fr_keep hP hk1
                have wu_33 := hw
                clear hFc hk1 hz1 hB hw
                have wu_33 : (0 ≤ r_u_33.toInt ∧ r_u_33.toInt ≤ 255) ∧ (r_u_33.toInt = sgn (v 3).toInt (f 1) (v 6).toInt ∧ (r_u_33.toInt = 0 ∨ (v 6).toInt < (v 3).toInt)) := by
                  have h9 : (0 ≤ r_u_33.toInt ∧ r_u_33.toInt ≤ 255) ∧ (r_u_33.toInt = sgn (v3 3).toInt (f3 1) (v 6).toInt ∧ (r_u_33.toInt = 0 ∨ (v 6).toInt < (v3 3).toInt)) := wu_33
                  rw [(show v3 3 = (v 3) from (hV_3 3 (by decide))), (show f3 1 = (f 1) from (hF_3 1 (by decide)))] at h9
                  exact h9
                have hFc := fr_free hD hS hA
                refine va_callv (va_runV (As := [.int r_u_1, .int r_u_33]) (rest := []) ⟨hx, hb, hml, hown, ht⟩ (m_pushE l G cy _ mo h T v3 nm3 f3 g3 r_u_1 r_u_33 ((v3 33)) hv hf hR hL rfl (show 0 ≤ ((v3 33)).toInt ∧ ((v3 33)).toInt ≤ 119 from by omega)) (cwV 2 ht (gv k_252 k_253 k_254 k_61 k_251) rfl rfl rfl (by decide +kernel) ⟨Nat.le_of_ble_eq_true rfl, Nat.le_of_ble_eq_true rfl⟩) ⟨En.blind, va_recv hK hP (ci := 12) (q0 := 0) rfl rfl, fun U hU hW => ⟨rfl, En.of hU hW hP hK hD hN⟩⟩ rfl rfl hl.1 rfl (lv_room (Nat.le_of_ble_eq_true rfl)) dX12_behindUnit_137 ⟨Nat.le_of_ble_eq_true rfl, Nat.le_of_ble_eq_true rfl⟩) hS (fun q _ h => hFc q h) hFc (fun u_34 t9 H locs ht9 hvm hw hB hz1 hk1 hS => ?_)
                obtain ⟨hP1, hD1⟩ := hB
                rw [ht9] at hP1
                have wu_34 := hw
                have q_36 : ((v3 33) + 1).toInt = (v3 33).toInt + 1 := ow_add rfl (by omega) (by omega)
                have hv := MIv.up 33 hv (show 0 ≤ ((v3 33) + 1).toInt ∧ ((v3 33) + 1).toInt ≤ 120 from by omega)
                have hR : RI (va_up v3 33 ((v3 33) + 1)) f3 := RI.upv 33 hR (by decide)
                have hL : WL (va_up v3 33 ((v3 33) + 1)) f3 := WL.upv 33 hL (by decide)
                have hV_0 := FV.up hV_0 33 ((v3 33) + 1) (by decide)
                have hf := MIf.up 26 (i := (Int32.toNatClampNeg (v3 33))) hf (ow_any r_u_1)
                have hF_0 := FF.up hF_0 26 (upd (f3 26) (Int32.toNatClampNeg (v3 33)) r_u_1) (by decide)
                have hR : RI (va_up v3 33 ((v3 33) + 1)) (va_up f3 26 (upd (f3 26) (Int32.toNatClampNeg (v3 33)) r_u_1)) := RI.up 26 hR (by decide)
                have hL : WL (va_up v3 33 ((v3 33) + 1)) (va_up f3 26 (upd (f3 26) (Int32.toNatClampNeg (v3 33)) r_u_1)) := WL.upf 26 hL (by decide)
                have hf := MIf.up 27 (i := (Int32.toNatClampNeg (v3 33))) hf (ow_any r_u_33)
                have hF_0 := FF.up hF_0 27 (upd ((va_up f3 26 (upd (f3 26) (Int32.toNatClampNeg (v3 33)) r_u_1)) 27) (Int32.toNatClampNeg (v3 33)) r_u_33) (by decide)
                have hR : RI (va_up v3 33 ((v3 33) + 1)) (va_up (va_up f3 26 (upd (f3 26) (Int32.toNatClampNeg (v3 33)) r_u_1)) 27 (upd ((va_up f3 26 (upd (f3 26) (Int32.toNatClampNeg (v3 33)) r_u_1)) 27) (Int32.toNatClampNeg (v3 33)) r_u_33)) := RI.up 27 hR (by decide)
                have hL : WL (va_up v3 33 ((v3 33) + 1)) (va_up (va_up f3 26 (upd (f3 26) (Int32.toNatClampNeg (v3 33)) r_u_1)) 27 (upd ((va_up f3 26 (upd (f3 26) (Int32.toNatClampNeg (v3 33)) r_u_1)) 27) (Int32.toNatClampNeg (v3 33)) r_u_33)) := WL.upf 27 hL (by decide)
                have hP : va_P G vwCl (WMs cy mo h (va_up v3 33 ((v3 33) + 1)) nm3 (va_up (va_up f3 26 (upd (f3 26) (Int32.toNatClampNeg (v3 33)) r_u_1)) 27 (upd ((va_up f3 26 (upd (f3 26) (Int32.toNatClampNeg (v3 33)) r_u_1)) 27) (Int32.toNatClampNeg (v3 33)) r_u_33)) g3) H := hP1
                have hD : va_D A (WMs cy mo h (va_up v3 33 ((v3 33) + 1)) nm3 (va_up (va_up f3 26 (upd (f3 26) (Int32.toNatClampNeg (v3 33)) r_u_1)) 27 (upd ((va_up f3 26 (upd (f3 26) (Int32.toNatClampNeg (v3 33)) r_u_1)) 27) (Int32.toNatClampNeg (v3 33)) r_u_33)) g3) := hD1.weaken (fun _ _ _ h => hFc _ h)
                clear hFc hk1 hz1 hP1 hD1 hw
                refine lv_aload_n hx hb dX12_behindUnit_140 rfl (lv_at hl 1 rfl) ?_
                have hFc := fr_free hD hS hA
                refine va_callv (va_runV (As := []) (rest := []) ⟨hx, hb, hml, hown, ht⟩ (m_goOn l G cy _ mo h T (va_up v3 33 ((v3 33) + 1)) nm3 (va_up (va_up f3 26 (upd (f3 26) (Int32.toNatClampNeg (v3 33)) r_u_1)) 27 (upd ((va_up f3 26 (upd (f3 26) (Int32.toNatClampNeg (v3 33)) r_u_1)) 27) (Int32.toNatClampNeg (v3 33)) r_u_33)) g3   hv hf hR hL (show (v3 7).toInt ≤ (v3 3).toInt from by rw [(show v3 7 = (v 7) from (hV_3 7 (by decide))), (show v3 3 = (v 3) from (hV_3 3 (by decide)))]; omega)) (cwV 0 ht (gv k_232 k_233 k_234 k_61 k_231) rfl rfl rfl (by decide +kernel) ⟨Nat.le_of_ble_eq_true rfl, Nat.le_of_ble_eq_true rfl⟩) ⟨En.blind, va_recv hK hP (ci := 12) (q0 := 0) rfl rfl, fun U hU hW => ⟨rfl, En.of hU hW hP hK hD hN⟩⟩ rfl rfl hl.1 rfl (lv_room (Nat.le_of_ble_eq_true rfl)) dX12_behindUnit_141 ⟨Nat.le_of_ble_eq_true rfl, Nat.le_of_ble_eq_true rfl⟩) hS (fun q _ h => hFc q h) hFc (fun u_37 t9 H locs ht9 hvm hw hB hz1 hk1 hS => ?_)
                obtain ⟨v37, nm37⟩ := u_37
                obtain ⟨hP1, hD1⟩ := hB
                rw [ht9] at hP1
                obtain ⟨hv, xu_37V, wu_37, xu_37_M⟩ := hw
                dsimp only at hv xu_37V wu_37 xu_37_M
                have hP : va_P G vwCl (WMs cy mo h v37 nm37 (va_up (va_up f3 26 (upd (f3 26) (Int32.toNatClampNeg (v3 33)) r_u_1)) 27 (upd ((va_up f3 26 (upd (f3 26) (Int32.toNatClampNeg (v3 33)) r_u_1)) 27) (Int32.toNatClampNeg (v3 33)) r_u_33)) g3) H := hP1
                have hD : va_D A (WMs cy mo h v37 nm37 (va_up (va_up f3 26 (upd (f3 26) (Int32.toNatClampNeg (v3 33)) r_u_1)) 27 (upd ((va_up f3 26 (upd (f3 26) (Int32.toNatClampNeg (v3 33)) r_u_1)) 27) (Int32.toNatClampNeg (v3 33)) r_u_33)) g3) := hD1.weaken (fun _ _ _ h => hFc _ h)
                have hR : RI v37 (va_up (va_up f3 26 (upd (f3 26) (Int32.toNatClampNeg (v3 33)) r_u_1)) 27 (upd ((va_up f3 26 (upd (f3 26) (Int32.toNatClampNeg (v3 33)) r_u_1)) 27) (Int32.toNatClampNeg (v3 33)) r_u_33)) := RI.fv hR xu_37V (by decide)
                have hL : WL v37 (va_up (va_up f3 26 (upd (f3 26) (Int32.toNatClampNeg (v3 33)) r_u_1)) 27 (upd ((va_up f3 26 (upd (f3 26) (Int32.toNatClampNeg (v3 33)) r_u_1)) 27) (Int32.toNatClampNeg (v3 33)) r_u_33)) := WL.fv hL xu_37V (by decide) (by decide)
                have hV_0 := FV.tr hV_0 xu_37V (by decide)
                clear hFc hk1 hz1 hP1 hD1
                have wu_37 : ((v37 7).toInt ≤ (v 3).toInt ∧ (((v37 8).toInt = 0 ∧ (v37 7).toInt = (v 3).toInt) ∨ ((v37 8).toInt ≠ 0 ∧ (v 7).toInt < (v37 7).toInt))) := by
                  have h9 : ((v37 7).toInt ≤ (v3 3).toInt ∧ (((v37 8).toInt = 0 ∧ (v37 7).toInt = (v3 3).toInt) ∨ ((v37 8).toInt ≠ 0 ∧ (v3 7).toInt < (v37 7).toInt))) := wu_37
                  rw [(show v3 3 = (v 3) from (hV_3 3 (by decide))), (show v3 7 = (v 7) from (hV_3 7 (by decide)))] at h9
                  exact h9
                have xu_37_M : 0 ≤ mz (v 3).toInt (v37 7).toInt (v37 8).toInt ∧ mz (v 3).toInt (v37 7).toInt (v37 8).toInt ≤ mz (v 3).toInt (v 7).toInt (v 8).toInt ∧ ((v 8).toInt = 0 ∨ mz (v 3).toInt (v37 7).toInt (v37 8).toInt < mz (v 3).toInt (v 7).toInt (v 8).toInt) := by
                  have h9 : 0 ≤ mz (v3 3).toInt (v37 7).toInt (v37 8).toInt ∧ mz (v3 3).toInt (v37 7).toInt (v37 8).toInt ≤ mz (v3 3).toInt (v3 7).toInt (v3 8).toInt ∧ ((v3 8).toInt = 0 ∨ mz (v3 3).toInt (v37 7).toInt (v37 8).toInt < mz (v3 3).toInt (v3 7).toInt (v3 8).toInt) := xu_37_M
                  rw [(show v3 3 = (v 3) from (hV_3 3 (by decide))), (show v3 7 = (v 7) from (hV_3 7 (by decide))), (show v3 8 = (v 8) from (hV_3 8 (by decide)))] at h9
                  exact h9
                refine lv_iconst (v := 1) hx hb dX12_behindUnit_144 (by decide) ?_
                refine W.widen (k := 0) (n := 0) (Nat.le_of_ble_eq_true rfl) (Nat.le_of_ble_eq_true rfl) ?_
                exact W.zret (v := 1) hx hb hr rfl (fun t ht9 hW => ⟨⟨1, (v37, nm37, (va_up (va_up f3 26 (upd (f3 26) (Int32.toNatClampNeg (v3 33)) r_u_1)) 27 (upd ((va_up f3 26 (upd (f3 26) (Int32.toNatClampNeg (v3 33)) r_u_1)) 27) (Int32.toNatClampNeg (v3 33)) r_u_33)), g3), rfl, ⟨hv, hf, hR, hL, hV_0, hF_0, ⟨(by omega), (show (v37 7).toInt ≤ (v 3).toInt from by first | omega | (subst_vars; first | rfl | omega))⟩, (show 0 ≤ mz (v 3).toInt (v37 7).toInt (v37 8).toInt ∧ mz (v 3).toInt (v37 7).toInt (v37 8).toInt ≤ mz (v 3).toInt (v 7).toInt (v 8).toInt ∧ ((v37 4).toInt ≠ 0 ∨ mz (v 3).toInt (v37 7).toInt (v37 8).toInt < mz (v 3).toInt (v 7).toInt (v 8).toInt ∨ (v37 33).toInt < (v 33).toInt) from by rw [(show v37 4 = (v 4) from ((xu_37V 4 (by decide)).trans (hV_3 4 (by decide)))), (show v37 33 = ((v3 33) + 1) from (xu_37V 33 (by decide)))]; omega), (show (v37 4).toInt = 0 → EI (1 : Int32).toInt (v 30).toInt Fz (v37 31).toInt (v37 33).toInt (v37 32).toInt ((f3 13) (Int32.toNatClampNeg (v 30))).toInt (f3 26) (f3 27) (f3 24) (f3 25) from by rw [(show v37 4 = (v 4) from ((xu_37V 4 (by decide)).trans (hV_3 4 (by decide)))), (show v37 31 = (v3 31) from (xu_37V 31 (by decide))), (show v37 33 = ((v3 33) + 1) from (xu_37V 33 (by decide))), (show v37 32 = (v3 32) from (xu_37V 32 (by decide))), (show f3 13 = (f 13) from (hF_3 13 (by decide))), (show f3 26 = (upd (f 26) (Int32.toNatClampNeg (v3 33)) r_u_1) from (congrArg (fun z : Nat → Int32 => upd z (Int32.toNatClampNeg (v3 33)) r_u_1) (hF_3 26 (by decide)))), (show f3 27 = (upd (f 27) (Int32.toNatClampNeg (v3 33)) r_u_33) from (congrArg (fun z : Nat → Int32 => upd z (Int32.toNatClampNeg (v3 33)) r_u_33) (hF_3 27 (by decide))))]; exact fun h9 => EI.cast (EI.push qf3_0 (by omega) (by omega) (by omega)) (by omega) (by omega) (by omega) (by omega) rfl), (show OUT Fz (600 * (v 30).toInt + 600) (f 24) (f 25) (f3 24) (f3 25) from by exact qf3_1)⟩, ⟨by rw [ht9]; exact hP, hD⟩⟩, hS.F ht9⟩) hS.2.2 dX12_behindUnit_145
              · have q_38 : r_u_1.toInt = (1 : Int32).toInt := (ow_eq _ _).mp c_30
                refine lv_bipush (v := 124) hx hb dX12_behindUnit_124 (by decide) ?_
                refine lv_goto (tgt := 137) hx hb dX12_behindUnit_126 (by decide) ?_
                have hFc := fr_free hD hS hA
                refine va_callv (va_runV (As := [.int r_u_1, .int 124]) (rest := []) ⟨hx, hb, hml, hown, ht⟩ (m_pushE l G cy _ mo h T v3 nm3 f3 g3 r_u_1 (124) ((v3 33)) hv hf hR hL rfl (show 0 ≤ ((v3 33)).toInt ∧ ((v3 33)).toInt ≤ 119 from by omega)) (cwV 2 ht (gv k_252 k_253 k_254 k_61 k_251) rfl rfl rfl (by decide +kernel) ⟨Nat.le_of_ble_eq_true rfl, Nat.le_of_ble_eq_true rfl⟩) ⟨En.blind, va_recv hK hP (ci := 12) (q0 := 0) rfl rfl, fun U hU hW => ⟨rfl, En.of hU hW hP hK hD hN⟩⟩ rfl rfl hl.1 rfl (lv_room (Nat.le_of_ble_eq_true rfl)) dX12_behindUnit_137 ⟨Nat.le_of_ble_eq_true rfl, Nat.le_of_ble_eq_true rfl⟩) hS (fun q _ h => hFc q h) hFc (fun u_39 t9 H locs ht9 hvm hw hB hz1 hk1 hS => ?_)
                obtain ⟨hP1, hD1⟩ := hB
                rw [ht9] at hP1
                have wu_39 := hw
                have q_41 : ((v3 33) + 1).toInt = (v3 33).toInt + 1 := ow_add rfl (by omega) (by omega)
                have hv := MIv.up 33 hv (show 0 ≤ ((v3 33) + 1).toInt ∧ ((v3 33) + 1).toInt ≤ 120 from by omega)
                have hR : RI (va_up v3 33 ((v3 33) + 1)) f3 := RI.upv 33 hR (by decide)
                have hL : WL (va_up v3 33 ((v3 33) + 1)) f3 := WL.upv 33 hL (by decide)
                have hV_0 := FV.up hV_0 33 ((v3 33) + 1) (by decide)
                have hf := MIf.up 26 (i := (Int32.toNatClampNeg (v3 33))) hf (ow_any r_u_1)
                have hF_0 := FF.up hF_0 26 (upd (f3 26) (Int32.toNatClampNeg (v3 33)) r_u_1) (by decide)
                have hR : RI (va_up v3 33 ((v3 33) + 1)) (va_up f3 26 (upd (f3 26) (Int32.toNatClampNeg (v3 33)) r_u_1)) := RI.up 26 hR (by decide)
                have hL : WL (va_up v3 33 ((v3 33) + 1)) (va_up f3 26 (upd (f3 26) (Int32.toNatClampNeg (v3 33)) r_u_1)) := WL.upf 26 hL (by decide)
                have hf := MIf.up 27 (i := (Int32.toNatClampNeg (v3 33))) hf (ow_any (124 : Int32))
                have hF_0 := FF.up hF_0 27 (upd ((va_up f3 26 (upd (f3 26) (Int32.toNatClampNeg (v3 33)) r_u_1)) 27) (Int32.toNatClampNeg (v3 33)) (124 : Int32)) (by decide)
                have hR : RI (va_up v3 33 ((v3 33) + 1)) (va_up (va_up f3 26 (upd (f3 26) (Int32.toNatClampNeg (v3 33)) r_u_1)) 27 (upd ((va_up f3 26 (upd (f3 26) (Int32.toNatClampNeg (v3 33)) r_u_1)) 27) (Int32.toNatClampNeg (v3 33)) (124 : Int32))) := RI.up 27 hR (by decide)
                have hL : WL (va_up v3 33 ((v3 33) + 1)) (va_up (va_up f3 26 (upd (f3 26) (Int32.toNatClampNeg (v3 33)) r_u_1)) 27 (upd ((va_up f3 26 (upd (f3 26) (Int32.toNatClampNeg (v3 33)) r_u_1)) 27) (Int32.toNatClampNeg (v3 33)) (124 : Int32))) := WL.upf 27 hL (by decide)
                have hP : va_P G vwCl (WMs cy mo h (va_up v3 33 ((v3 33) + 1)) nm3 (va_up (va_up f3 26 (upd (f3 26) (Int32.toNatClampNeg (v3 33)) r_u_1)) 27 (upd ((va_up f3 26 (upd (f3 26) (Int32.toNatClampNeg (v3 33)) r_u_1)) 27) (Int32.toNatClampNeg (v3 33)) (124 : Int32))) g3) H := hP1
                have hD : va_D A (WMs cy mo h (va_up v3 33 ((v3 33) + 1)) nm3 (va_up (va_up f3 26 (upd (f3 26) (Int32.toNatClampNeg (v3 33)) r_u_1)) 27 (upd ((va_up f3 26 (upd (f3 26) (Int32.toNatClampNeg (v3 33)) r_u_1)) 27) (Int32.toNatClampNeg (v3 33)) (124 : Int32))) g3) := hD1.weaken (fun _ _ _ h => hFc _ h)
                clear hFc hk1 hz1 hP1 hD1 hw
                refine lv_aload_n hx hb dX12_behindUnit_140 rfl (lv_at hl 1 rfl) ?_
                have hFc := fr_free hD hS hA
                refine va_callv (va_runV (As := []) (rest := []) ⟨hx, hb, hml, hown, ht⟩ (m_goOn l G cy _ mo h T (va_up v3 33 ((v3 33) + 1)) nm3 (va_up (va_up f3 26 (upd (f3 26) (Int32.toNatClampNeg (v3 33)) r_u_1)) 27 (upd ((va_up f3 26 (upd (f3 26) (Int32.toNatClampNeg (v3 33)) r_u_1)) 27) (Int32.toNatClampNeg (v3 33)) (124 : Int32))) g3   hv hf hR hL (show (v3 7).toInt ≤ (v3 3).toInt from by rw [(show v3 7 = (v 7) from (hV_3 7 (by decide))), (show v3 3 = (v 3) from (hV_3 3 (by decide)))]; omega)) (cwV 0 ht (gv k_232 k_233 k_234 k_61 k_231) rfl rfl rfl (by decide +kernel) ⟨Nat.le_of_ble_eq_true rfl, Nat.le_of_ble_eq_true rfl⟩) ⟨En.blind, va_recv hK hP (ci := 12) (q0 := 0) rfl rfl, fun U hU hW => ⟨rfl, En.of hU hW hP hK hD hN⟩⟩ rfl rfl hl.1 rfl (lv_room (Nat.le_of_ble_eq_true rfl)) dX12_behindUnit_141 ⟨Nat.le_of_ble_eq_true rfl, Nat.le_of_ble_eq_true rfl⟩) hS (fun q _ h => hFc q h) hFc (fun u_42 t9 H locs ht9 hvm hw hB hz1 hk1 hS => ?_)
                obtain ⟨v42, nm42⟩ := u_42
                obtain ⟨hP1, hD1⟩ := hB
                rw [ht9] at hP1
                obtain ⟨hv, xu_42V, wu_42, xu_42_M⟩ := hw
                dsimp only at hv xu_42V wu_42 xu_42_M
                have hP : va_P G vwCl (WMs cy mo h v42 nm42 (va_up (va_up f3 26 (upd (f3 26) (Int32.toNatClampNeg (v3 33)) r_u_1)) 27 (upd ((va_up f3 26 (upd (f3 26) (Int32.toNatClampNeg (v3 33)) r_u_1)) 27) (Int32.toNatClampNeg (v3 33)) (124 : Int32))) g3) H := hP1
                have hD : va_D A (WMs cy mo h v42 nm42 (va_up (va_up f3 26 (upd (f3 26) (Int32.toNatClampNeg (v3 33)) r_u_1)) 27 (upd ((va_up f3 26 (upd (f3 26) (Int32.toNatClampNeg (v3 33)) r_u_1)) 27) (Int32.toNatClampNeg (v3 33)) (124 : Int32))) g3) := hD1.weaken (fun _ _ _ h => hFc _ h)
                have hR : RI v42 (va_up (va_up f3 26 (upd (f3 26) (Int32.toNatClampNeg (v3 33)) r_u_1)) 27 (upd ((va_up f3 26 (upd (f3 26) (Int32.toNatClampNeg (v3 33)) r_u_1)) 27) (Int32.toNatClampNeg (v3 33)) (124 : Int32))) := RI.fv hR xu_42V (by decide)
                have hL : WL v42 (va_up (va_up f3 26 (upd (f3 26) (Int32.toNatClampNeg (v3 33)) r_u_1)) 27 (upd ((va_up f3 26 (upd (f3 26) (Int32.toNatClampNeg (v3 33)) r_u_1)) 27) (Int32.toNatClampNeg (v3 33)) (124 : Int32))) := WL.fv hL xu_42V (by decide) (by decide)
                have hV_0 := FV.tr hV_0 xu_42V (by decide)
                clear hFc hk1 hz1 hP1 hD1
                have wu_42 : ((v42 7).toInt ≤ (v 3).toInt ∧ (((v42 8).toInt = 0 ∧ (v42 7).toInt = (v 3).toInt) ∨ ((v42 8).toInt ≠ 0 ∧ (v 7).toInt < (v42 7).toInt))) := by
                  have h9 : ((v42 7).toInt ≤ (v3 3).toInt ∧ (((v42 8).toInt = 0 ∧ (v42 7).toInt = (v3 3).toInt) ∨ ((v42 8).toInt ≠ 0 ∧ (v3 7).toInt < (v42 7).toInt))) := wu_42
                  rw [(show v3 3 = (v 3) from (hV_3 3 (by decide))), (show v3 7 = (v 7) from (hV_3 7 (by decide)))] at h9
                  exact h9
                have xu_42_M : 0 ≤ mz (v 3).toInt (v42 7).toInt (v42 8).toInt ∧ mz (v 3).toInt (v42 7).toInt (v42 8).toInt ≤ mz (v 3).toInt (v 7).toInt (v 8).toInt ∧ ((v 8).toInt = 0 ∨ mz (v 3).toInt (v42 7).toInt (v42 8).toInt < mz (v 3).toInt (v 7).toInt (v 8).toInt) := by
                  have h9 : 0 ≤ mz (v3 3).toInt (v42 7).toInt (v42 8).toInt ∧ mz (v3 3).toInt (v42 7).toInt (v42 8).toInt ≤ mz (v3 3).toInt (v3 7).toInt (v3 8).toInt ∧ ((v3 8).toInt = 0 ∨ mz (v3 3).toInt (v42 7).toInt (v42 8).toInt < mz (v3 3).toInt (v3 7).toInt (v3 8).toInt) := xu_42_M
                  rw [(show v3 3 = (v 3) from (hV_3 3 (by decide))), (show v3 7 = (v 7) from (hV_3 7 (by decide))), (show v3 8 = (v 8) from (hV_3 8 (by decide)))] at h9
                  exact h9
                refine lv_iconst (v := 1) hx hb dX12_behindUnit_144 (by decide) ?_
                refine W.widen (k := 0) (n := 0) (Nat.le_of_ble_eq_true rfl) (Nat.le_of_ble_eq_true rfl) ?_
                exact W.zret (v := 1) hx hb hr rfl (fun t ht9 hW => ⟨⟨1, (v42, nm42, (va_up (va_up f3 26 (upd (f3 26) (Int32.toNatClampNeg (v3 33)) r_u_1)) 27 (upd ((va_up f3 26 (upd (f3 26) (Int32.toNatClampNeg (v3 33)) r_u_1)) 27) (Int32.toNatClampNeg (v3 33)) (124 : Int32))), g3), rfl, ⟨hv, hf, hR, hL, hV_0, hF_0, ⟨(by omega), (show (v42 7).toInt ≤ (v 3).toInt from by first | omega | (subst_vars; first | rfl | omega))⟩, (show 0 ≤ mz (v 3).toInt (v42 7).toInt (v42 8).toInt ∧ mz (v 3).toInt (v42 7).toInt (v42 8).toInt ≤ mz (v 3).toInt (v 7).toInt (v 8).toInt ∧ ((v42 4).toInt ≠ 0 ∨ mz (v 3).toInt (v42 7).toInt (v42 8).toInt < mz (v 3).toInt (v 7).toInt (v 8).toInt ∨ (v42 33).toInt < (v 33).toInt) from by rw [(show v42 4 = (v 4) from ((xu_42V 4 (by decide)).trans (hV_3 4 (by decide)))), (show v42 33 = ((v3 33) + 1) from (xu_42V 33 (by decide)))]; omega), (show (v42 4).toInt = 0 → EI (1 : Int32).toInt (v 30).toInt Fz (v42 31).toInt (v42 33).toInt (v42 32).toInt ((f3 13) (Int32.toNatClampNeg (v 30))).toInt (f3 26) (f3 27) (f3 24) (f3 25) from by rw [(show v42 4 = (v 4) from ((xu_42V 4 (by decide)).trans (hV_3 4 (by decide)))), (show v42 31 = (v3 31) from (xu_42V 31 (by decide))), (show v42 33 = ((v3 33) + 1) from (xu_42V 33 (by decide))), (show v42 32 = (v3 32) from (xu_42V 32 (by decide))), (show f3 13 = (f 13) from (hF_3 13 (by decide))), (show f3 26 = (upd (f 26) (Int32.toNatClampNeg (v3 33)) r_u_1) from (congrArg (fun z : Nat → Int32 => upd z (Int32.toNatClampNeg (v3 33)) r_u_1) (hF_3 26 (by decide)))), (show f3 27 = (upd (f 27) (Int32.toNatClampNeg (v3 33)) (124 : Int32)) from (congrArg (fun z : Nat → Int32 => upd z (Int32.toNatClampNeg (v3 33)) (124 : Int32)) (hF_3 27 (by decide))))]; exact fun h9 => EI.cast (EI.push qf3_0 (by omega) (by omega) (by omega)) (by omega) (by omega) (by omega) (by omega) rfl), (show OUT Fz (600 * (v 30).toInt + 600) (f 24) (f 25) (f3 24) (f3 25) from by exact qf3_1)⟩, ⟨by rw [ht9]; exact hP, hD⟩⟩, hS.F ht9⟩) hS.2.2 dX12_behindUnit_145
            · have q_43 : r_u_1.toInt = (2 : Int32).toInt := (ow_eq _ _).mp c_28
              refine lv_bipush (v := 38) hx hb dX12_behindUnit_114 (by decide) ?_
              refine lv_goto (tgt := 137) hx hb dX12_behindUnit_116 (by decide) ?_
              have hFc := fr_free hD hS hA
              refine va_callv (va_runV (As := [.int r_u_1, .int 38]) (rest := []) ⟨hx, hb, hml, hown, ht⟩ (m_pushE l G cy _ mo h T v3 nm3 f3 g3 r_u_1 (38) ((v3 33)) hv hf hR hL rfl (show 0 ≤ ((v3 33)).toInt ∧ ((v3 33)).toInt ≤ 119 from by omega)) (cwV 2 ht (gv k_252 k_253 k_254 k_61 k_251) rfl rfl rfl (by decide +kernel) ⟨Nat.le_of_ble_eq_true rfl, Nat.le_of_ble_eq_true rfl⟩) ⟨En.blind, va_recv hK hP (ci := 12) (q0 := 0) rfl rfl, fun U hU hW => ⟨rfl, En.of hU hW hP hK hD hN⟩⟩ rfl rfl hl.1 rfl (lv_room (Nat.le_of_ble_eq_true rfl)) dX12_behindUnit_137 ⟨Nat.le_of_ble_eq_true rfl, Nat.le_of_ble_eq_true rfl⟩) hS (fun q _ h => hFc q h) hFc (fun u_44 t9 H locs ht9 hvm hw hB hz1 hk1 hS => ?_)
              obtain ⟨hP1, hD1⟩ := hB
              rw [ht9] at hP1
              have wu_44 := hw
              have q_46 : ((v3 33) + 1).toInt = (v3 33).toInt + 1 := ow_add rfl (by omega) (by omega)
              have hv := MIv.up 33 hv (show 0 ≤ ((v3 33) + 1).toInt ∧ ((v3 33) + 1).toInt ≤ 120 from by omega)
              have hR : RI (va_up v3 33 ((v3 33) + 1)) f3 := RI.upv 33 hR (by decide)
              have hL : WL (va_up v3 33 ((v3 33) + 1)) f3 := WL.upv 33 hL (by decide)
              have hV_0 := FV.up hV_0 33 ((v3 33) + 1) (by decide)
              have hf := MIf.up 26 (i := (Int32.toNatClampNeg (v3 33))) hf (ow_any r_u_1)
              have hF_0 := FF.up hF_0 26 (upd (f3 26) (Int32.toNatClampNeg (v3 33)) r_u_1) (by decide)
              have hR : RI (va_up v3 33 ((v3 33) + 1)) (va_up f3 26 (upd (f3 26) (Int32.toNatClampNeg (v3 33)) r_u_1)) := RI.up 26 hR (by decide)
              have hL : WL (va_up v3 33 ((v3 33) + 1)) (va_up f3 26 (upd (f3 26) (Int32.toNatClampNeg (v3 33)) r_u_1)) := WL.upf 26 hL (by decide)
              have hf := MIf.up 27 (i := (Int32.toNatClampNeg (v3 33))) hf (ow_any (38 : Int32))
              have hF_0 := FF.up hF_0 27 (upd ((va_up f3 26 (upd (f3 26) (Int32.toNatClampNeg (v3 33)) r_u_1)) 27) (Int32.toNatClampNeg (v3 33)) (38 : Int32)) (by decide)
              have hR : RI (va_up v3 33 ((v3 33) + 1)) (va_up (va_up f3 26 (upd (f3 26) (Int32.toNatClampNeg (v3 33)) r_u_1)) 27 (upd ((va_up f3 26 (upd (f3 26) (Int32.toNatClampNeg (v3 33)) r_u_1)) 27) (Int32.toNatClampNeg (v3 33)) (38 : Int32))) := RI.up 27 hR (by decide)
              have hL : WL (va_up v3 33 ((v3 33) + 1)) (va_up (va_up f3 26 (upd (f3 26) (Int32.toNatClampNeg (v3 33)) r_u_1)) 27 (upd ((va_up f3 26 (upd (f3 26) (Int32.toNatClampNeg (v3 33)) r_u_1)) 27) (Int32.toNatClampNeg (v3 33)) (38 : Int32))) := WL.upf 27 hL (by decide)
              have hP : va_P G vwCl (WMs cy mo h (va_up v3 33 ((v3 33) + 1)) nm3 (va_up (va_up f3 26 (upd (f3 26) (Int32.toNatClampNeg (v3 33)) r_u_1)) 27 (upd ((va_up f3 26 (upd (f3 26) (Int32.toNatClampNeg (v3 33)) r_u_1)) 27) (Int32.toNatClampNeg (v3 33)) (38 : Int32))) g3) H := hP1
              have hD : va_D A (WMs cy mo h (va_up v3 33 ((v3 33) + 1)) nm3 (va_up (va_up f3 26 (upd (f3 26) (Int32.toNatClampNeg (v3 33)) r_u_1)) 27 (upd ((va_up f3 26 (upd (f3 26) (Int32.toNatClampNeg (v3 33)) r_u_1)) 27) (Int32.toNatClampNeg (v3 33)) (38 : Int32))) g3) := hD1.weaken (fun _ _ _ h => hFc _ h)
              clear hFc hk1 hz1 hP1 hD1 hw
              refine lv_aload_n hx hb dX12_behindUnit_140 rfl (lv_at hl 1 rfl) ?_
              have hFc := fr_free hD hS hA
              refine va_callv (va_runV (As := []) (rest := []) ⟨hx, hb, hml, hown, ht⟩ (m_goOn l G cy _ mo h T (va_up v3 33 ((v3 33) + 1)) nm3 (va_up (va_up f3 26 (upd (f3 26) (Int32.toNatClampNeg (v3 33)) r_u_1)) 27 (upd ((va_up f3 26 (upd (f3 26) (Int32.toNatClampNeg (v3 33)) r_u_1)) 27) (Int32.toNatClampNeg (v3 33)) (38 : Int32))) g3   hv hf hR hL (show (v3 7).toInt ≤ (v3 3).toInt from by rw [(show v3 7 = (v 7) from (hV_3 7 (by decide))), (show v3 3 = (v 3) from (hV_3 3 (by decide)))]; omega)) (cwV 0 ht (gv k_232 k_233 k_234 k_61 k_231) rfl rfl rfl (by decide +kernel) ⟨Nat.le_of_ble_eq_true rfl, Nat.le_of_ble_eq_true rfl⟩) ⟨En.blind, va_recv hK hP (ci := 12) (q0 := 0) rfl rfl, fun U hU hW => ⟨rfl, En.of hU hW hP hK hD hN⟩⟩ rfl rfl hl.1 rfl (lv_room (Nat.le_of_ble_eq_true rfl)) dX12_behindUnit_141 ⟨Nat.le_of_ble_eq_true rfl, Nat.le_of_ble_eq_true rfl⟩) hS (fun q _ h => hFc q h) hFc (fun u_47 t9 H locs ht9 hvm hw hB hz1 hk1 hS => ?_)
              obtain ⟨v47, nm47⟩ := u_47
              obtain ⟨hP1, hD1⟩ := hB
              rw [ht9] at hP1
              obtain ⟨hv, xu_47V, wu_47, xu_47_M⟩ := hw
              dsimp only at hv xu_47V wu_47 xu_47_M
              have hP : va_P G vwCl (WMs cy mo h v47 nm47 (va_up (va_up f3 26 (upd (f3 26) (Int32.toNatClampNeg (v3 33)) r_u_1)) 27 (upd ((va_up f3 26 (upd (f3 26) (Int32.toNatClampNeg (v3 33)) r_u_1)) 27) (Int32.toNatClampNeg (v3 33)) (38 : Int32))) g3) H := hP1
              have hD : va_D A (WMs cy mo h v47 nm47 (va_up (va_up f3 26 (upd (f3 26) (Int32.toNatClampNeg (v3 33)) r_u_1)) 27 (upd ((va_up f3 26 (upd (f3 26) (Int32.toNatClampNeg (v3 33)) r_u_1)) 27) (Int32.toNatClampNeg (v3 33)) (38 : Int32))) g3) := hD1.weaken (fun _ _ _ h => hFc _ h)
              have hR : RI v47 (va_up (va_up f3 26 (upd (f3 26) (Int32.toNatClampNeg (v3 33)) r_u_1)) 27 (upd ((va_up f3 26 (upd (f3 26) (Int32.toNatClampNeg (v3 33)) r_u_1)) 27) (Int32.toNatClampNeg (v3 33)) (38 : Int32))) := RI.fv hR xu_47V (by decide)
              have hL : WL v47 (va_up (va_up f3 26 (upd (f3 26) (Int32.toNatClampNeg (v3 33)) r_u_1)) 27 (upd ((va_up f3 26 (upd (f3 26) (Int32.toNatClampNeg (v3 33)) r_u_1)) 27) (Int32.toNatClampNeg (v3 33)) (38 : Int32))) := WL.fv hL xu_47V (by decide) (by decide)
              have hV_0 := FV.tr hV_0 xu_47V (by decide)
              clear hFc hk1 hz1 hP1 hD1
              have wu_47 : ((v47 7).toInt ≤ (v 3).toInt ∧ (((v47 8).toInt = 0 ∧ (v47 7).toInt = (v 3).toInt) ∨ ((v47 8).toInt ≠ 0 ∧ (v 7).toInt < (v47 7).toInt))) := by
                have h9 : ((v47 7).toInt ≤ (v3 3).toInt ∧ (((v47 8).toInt = 0 ∧ (v47 7).toInt = (v3 3).toInt) ∨ ((v47 8).toInt ≠ 0 ∧ (v3 7).toInt < (v47 7).toInt))) := wu_47
                rw [(show v3 3 = (v 3) from (hV_3 3 (by decide))), (show v3 7 = (v 7) from (hV_3 7 (by decide)))] at h9
                exact h9
              have xu_47_M : 0 ≤ mz (v 3).toInt (v47 7).toInt (v47 8).toInt ∧ mz (v 3).toInt (v47 7).toInt (v47 8).toInt ≤ mz (v 3).toInt (v 7).toInt (v 8).toInt ∧ ((v 8).toInt = 0 ∨ mz (v 3).toInt (v47 7).toInt (v47 8).toInt < mz (v 3).toInt (v 7).toInt (v 8).toInt) := by
                have h9 : 0 ≤ mz (v3 3).toInt (v47 7).toInt (v47 8).toInt ∧ mz (v3 3).toInt (v47 7).toInt (v47 8).toInt ≤ mz (v3 3).toInt (v3 7).toInt (v3 8).toInt ∧ ((v3 8).toInt = 0 ∨ mz (v3 3).toInt (v47 7).toInt (v47 8).toInt < mz (v3 3).toInt (v3 7).toInt (v3 8).toInt) := xu_47_M
                rw [(show v3 3 = (v 3) from (hV_3 3 (by decide))), (show v3 7 = (v 7) from (hV_3 7 (by decide))), (show v3 8 = (v 8) from (hV_3 8 (by decide)))] at h9
                exact h9
              refine lv_iconst (v := 1) hx hb dX12_behindUnit_144 (by decide) ?_
              refine W.widen (k := 0) (n := 0) (Nat.le_of_ble_eq_true rfl) (Nat.le_of_ble_eq_true rfl) ?_
              exact W.zret (v := 1) hx hb hr rfl (fun t ht9 hW => ⟨⟨1, (v47, nm47, (va_up (va_up f3 26 (upd (f3 26) (Int32.toNatClampNeg (v3 33)) r_u_1)) 27 (upd ((va_up f3 26 (upd (f3 26) (Int32.toNatClampNeg (v3 33)) r_u_1)) 27) (Int32.toNatClampNeg (v3 33)) (38 : Int32))), g3), rfl, ⟨hv, hf, hR, hL, hV_0, hF_0, ⟨(by omega), (show (v47 7).toInt ≤ (v 3).toInt from by first | omega | (subst_vars; first | rfl | omega))⟩, (show 0 ≤ mz (v 3).toInt (v47 7).toInt (v47 8).toInt ∧ mz (v 3).toInt (v47 7).toInt (v47 8).toInt ≤ mz (v 3).toInt (v 7).toInt (v 8).toInt ∧ ((v47 4).toInt ≠ 0 ∨ mz (v 3).toInt (v47 7).toInt (v47 8).toInt < mz (v 3).toInt (v 7).toInt (v 8).toInt ∨ (v47 33).toInt < (v 33).toInt) from by rw [(show v47 4 = (v 4) from ((xu_47V 4 (by decide)).trans (hV_3 4 (by decide)))), (show v47 33 = ((v3 33) + 1) from (xu_47V 33 (by decide)))]; omega), (show (v47 4).toInt = 0 → EI (1 : Int32).toInt (v 30).toInt Fz (v47 31).toInt (v47 33).toInt (v47 32).toInt ((f3 13) (Int32.toNatClampNeg (v 30))).toInt (f3 26) (f3 27) (f3 24) (f3 25) from by rw [(show v47 4 = (v 4) from ((xu_47V 4 (by decide)).trans (hV_3 4 (by decide)))), (show v47 31 = (v3 31) from (xu_47V 31 (by decide))), (show v47 33 = ((v3 33) + 1) from (xu_47V 33 (by decide))), (show v47 32 = (v3 32) from (xu_47V 32 (by decide))), (show f3 13 = (f 13) from (hF_3 13 (by decide))), (show f3 26 = (upd (f 26) (Int32.toNatClampNeg (v3 33)) r_u_1) from (congrArg (fun z : Nat → Int32 => upd z (Int32.toNatClampNeg (v3 33)) r_u_1) (hF_3 26 (by decide)))), (show f3 27 = (upd (f 27) (Int32.toNatClampNeg (v3 33)) (38 : Int32)) from (congrArg (fun z : Nat → Int32 => upd z (Int32.toNatClampNeg (v3 33)) (38 : Int32)) (hF_3 27 (by decide))))]; exact fun h9 => EI.cast (EI.push qf3_0 (by omega) (by omega) (by omega)) (by omega) (by omega) (by omega) (by omega) rfl), (show OUT Fz (600 * (v 30).toInt + 600) (f 24) (f 25) (f3 24) (f3 25) from by exact qf3_1)⟩, ⟨by rw [ht9]; exact hP, hD⟩⟩, hS.F ht9⟩) hS.2.2 dX12_behindUnit_145
        · have q_48 : v_8.toInt ≤ (5 : Int32).toInt := by have := (not_congr (ow_lt _ _)).mp c_10; omega
          refine lv_aload_n hx hb dX12_behindUnit_38 rfl (lv_at hl 1 rfl) ?_
          refine mg_26 hx hb ht hown hK hP dX12_behindUnit_39 ?_
          refine lv_aload_n hx hb dX12_behindUnit_42 rfl (lv_at hl 1 rfl) ?_
          refine mg_33 hx hb ht hown hK hP dX12_behindUnit_43 ?_
          refine lv_iconst (v := 1) hx hb dX12_behindUnit_46 (by decide) ?_
          refine lv_isub hx hb dX12_behindUnit_47 ?_
          refine lv_topi (fun v_49 ev_49 => ?_)
          have q_50 : v_49.toInt = (v3 33).toInt - (1 : Int32).toInt := ow_sub ev_49 (by omega) (by omega)
          have q_51 : vp_in v_49 120 := vp_in_iff.mpr ⟨by omega, by omega⟩
          refine ml_26 hx hb hK hP q_51 dX12_behindUnit_48 ?_
          refine lv_topi (fun v_52 ev_52 => ?_)
          have q_53 : v_52.toInt = ((f 26) (Int32.toNatClampNeg v_49)).toInt := (congrArg Int32.toInt ev_52).trans (congrArg (fun z : Nat → Int32 => (z (Int32.toNatClampNeg v_49)).toInt) (show f3 26 = (f 26) from (hF_3 26 (by decide))))
          refine lv_iload_n hx hb dX12_behindUnit_49 rfl (lv_at hl 0 rfl) ?_
          refine lv_icmp_lt (tgt := 103) hx hb dX12_behindUnit_50 (by decide) (fun c_54 => ?_) (fun c_54 => ?_)
          · have q_55 : v_52.toInt < r_u_1.toInt := (ow_lt _ _).mp c_54
            refine lv_iload_n hx hb dX12_behindUnit_103 rfl (lv_at hl 0 rfl) ?_
            refine lv_if_le (tgt := 146) hx hb dX12_behindUnit_104 (by decide) (fun c_56 => ?_) (fun c_56 => ?_)
            · have q_57 : r_u_1.toInt ≤ (0 : Int32).toInt := (ow_le _ _).mp c_56
              have x1 : (f 26 (Int32.toNatClampNeg v_5)).toInt = (f 26 ((v3 33).toInt.toNat - 1)).toInt := by rw [show (Int32.toNatClampNeg v_5) = (v3 33).toInt.toNat - 1 from by rw [ow_tn]; omega]
              have hok9 := qf3_0.pe ((v3 33).toInt.toNat - 1) (by omega)
              unfold okE at hok9
              refine lv_aload_n hx hb dX12_behindUnit_146 rfl (lv_at hl 1 rfl) ?_
              refine lv_dup hx hb dX12_behindUnit_147 rfl ?_
              refine mg_33 hx hb ht hown hK hP dX12_behindUnit_148 ?_
              refine lv_iconst (v := 1) hx hb dX12_behindUnit_151 (by decide) ?_
              refine lv_isub hx hb dX12_behindUnit_152 ?_
              refine lv_topi (fun v_58 ev_58 => ?_)
              have q_59 : v_58.toInt = (v3 33).toInt - (1 : Int32).toInt := ow_sub ev_58 (by omega) (by omega)
              refine mp_33 hx hb ht hown hK hP hD hS dX12_behindUnit_153 (fun H locs hP hD hS => ?_)
              have hv := MIv.up 33 hv (show 0 ≤ v_58.toInt ∧ v_58.toInt ≤ 120 from by omega)
              have hL : WL (va_up v3 33 v_58) f3 := WL.upv 33 hL (by decide)
              have hR : RI (va_up v3 33 v_58) f3 := RI.upv 33 hR (by decide)
              have hV_0 := FV.up hV_0 33 v_58 (by decide)
              refine lv_aload_n hx hb dX12_behindUnit_156 rfl (lv_at hl 1 rfl) ?_
              refine mg_26 hx hb ht hown hK hP dX12_behindUnit_157 ?_
              refine lv_aload_n hx hb dX12_behindUnit_160 rfl (lv_at hl 1 rfl) ?_
              refine mg_33 hx hb ht hown hK hP dX12_behindUnit_161 ?_
              refine ow_top v_58 rfl ?_
              have q_60 : vp_in v_58 120 := vp_in_iff.mpr ⟨by omega, by omega⟩
              refine ml_26 hx hb hK hP q_60 dX12_behindUnit_164 ?_
              refine lv_topi (fun v_61 ev_61 => ?_)
              have q_62 : v_61.toInt = ((f 26) (Int32.toNatClampNeg v_58)).toInt := (congrArg Int32.toInt ev_61).trans (congrArg (fun z : Nat → Int32 => (z (Int32.toNatClampNeg v_58)).toInt) (show f3 26 = (f 26) from (hF_3 26 (by decide))))
              have x2 : (f 26 (Int32.toNatClampNeg v_58)).toInt = (f 26 ((v3 33).toInt.toNat - 1)).toInt := by rw [show (Int32.toNatClampNeg v_58) = (v3 33).toInt.toNat - 1 from by rw [ow_tn]; omega]
              refine lv_bipush (v := 6) hx hb dX12_behindUnit_165 (by decide) ?_
              refine lv_icmp_ne (tgt := 190) hx hb dX12_behindUnit_167 (by decide) (fun c_63 => ?_) (fun c_63 => ?_)
              · have q_64 : ¬ v_61.toInt = (6 : Int32).toInt := by have := (not_congr (ow_eq _ _)).mp c_63; omega
                refine lv_iconst (v := 0) hx hb dX12_behindUnit_190 (by decide) ?_
                refine W.widen (k := 0) (n := 0) (Nat.le_of_ble_eq_true rfl) (Nat.le_of_ble_eq_true rfl) ?_
                exact W.zret (v := 0) hx hb hr rfl (fun t ht9 hW => ⟨⟨0, ((va_up v3 33 v_58), nm3, f3, g3), rfl, ⟨hv, hf, hR, hL, hV_0, hF_0, ⟨(by omega), (show (v3 7).toInt ≤ (v 3).toInt from by rw [(show v3 7 = (v 7) from (hV_3 7 (by decide)))]; first | omega | (subst_vars; first | rfl | omega))⟩, (show 0 ≤ mz (v 3).toInt (v3 7).toInt (v3 8).toInt ∧ mz (v 3).toInt (v3 7).toInt (v3 8).toInt ≤ mz (v 3).toInt (v 7).toInt (v 8).toInt ∧ ((v3 4).toInt ≠ 0 ∨ mz (v 3).toInt (v3 7).toInt (v3 8).toInt < mz (v 3).toInt (v 7).toInt (v 8).toInt ∨ v_58.toInt < (v 33).toInt) from by rw [(show v3 7 = (v 7) from (hV_3 7 (by decide))), (show v3 8 = (v 8) from (hV_3 8 (by decide))), (show v3 4 = (v 4) from (hV_3 4 (by decide)))]; omega), (show (v3 4).toInt = 0 → EI (0 : Int32).toInt (v 30).toInt Fz (v3 31).toInt v_58.toInt (v3 32).toInt ((f3 13) (Int32.toNatClampNeg (v 30))).toInt (f3 26) (f3 27) (f3 24) (f3 25) from by rw [(show v3 4 = (v 4) from (hV_3 4 (by decide))), (show f3 13 = (f 13) from (hF_3 13 (by decide))), (show f3 26 = (f 26) from (hF_3 26 (by decide))), (show f3 27 = (f 27) from (hF_3 27 (by decide)))]; exact fun h9 => EI.cast (EI.close (w' := (v3 32).toInt) qf3_0 (by omega) (by omega) (by omega)).2 (by omega) (by omega) (by omega) (by omega) rfl), (show OUT Fz (600 * (v 30).toInt + 600) (f 24) (f 25) (f3 24) (f3 25) from by exact qf3_1)⟩, ⟨by rw [ht9]; exact hP, hD⟩⟩, hS.F ht9⟩) hS.2.2 dX12_behindUnit_191
              · have q_65 : v_61.toInt = (6 : Int32).toInt := (ow_eq _ _).mp c_63
                have hw1 := EI.top qf3_0 (by omega) (by omega)
                refine lv_aload_n hx hb dX12_behindUnit_170 rfl (lv_at hl 1 rfl) ?_
                refine lv_dup hx hb dX12_behindUnit_171 rfl ?_
                refine mg_32 hx hb ht hown hK hP dX12_behindUnit_172 ?_
                refine ow_top (v3 32) rfl ?_
                have q_66 : 0 ≤ (v3 32).toInt ∧ (v3 32).toInt ≤ 7 := hv 32
                refine lv_iconst (v := 1) hx hb dX12_behindUnit_175 (by decide) ?_
                refine lv_isub hx hb dX12_behindUnit_176 ?_
                refine lv_topi (fun v_67 ev_67 => ?_)
                have q_68 : v_67.toInt = (v3 32).toInt - (1 : Int32).toInt := ow_sub ev_67 (by omega) (by omega)
                refine mp_32 hx hb ht hown hK hP hD hS dX12_behindUnit_177 (fun H locs hP hD hS => ?_)
                have hv := MIv.up 32 hv (show 0 ≤ v_67.toInt ∧ v_67.toInt ≤ 7 from by omega)
                have hL : WL (va_up (va_up v3 33 v_58) 32 v_67) f3 := WL.upv 32 hL (by decide)
                have hR : RI (va_up (va_up v3 33 v_58) 32 v_67) f3 := RI.upv 32 hR (by decide)
                have hV_0 := FV.up hV_0 32 v_67 (by decide)
                refine lv_aload_n hx hb dX12_behindUnit_180 rfl (lv_at hl 1 rfl) ?_
                refine lv_aload_n hx hb dX12_behindUnit_181 rfl (lv_at hl 1 rfl) ?_
                refine lv_bipush (v := 41) hx hb dX12_behindUnit_182 (by decide) ?_
                have hFc := fr_new hS hA
                refine va_calli (va_runV (As := [.int 41]) (rest := [.ref mo]) ⟨hx, hb, hml, hown, ht⟩ (m_stands l G cy _ mo h T (va_up (va_up v3 33 v_58) 32 v_67) nm3 f3 g3 (41)  hv hf hR hL) (cwV 1 ht (gv k_244 k_245 k_246 k_61 k_243) rfl rfl rfl (by decide +kernel) ⟨Nat.le_of_ble_eq_true rfl, Nat.le_of_ble_eq_true rfl⟩) ⟨En.blind, va_recv hK hP (ci := 12) (q0 := 0) rfl rfl, fun U hU hW => ⟨rfl, En.of hU hW hP hK hD hN⟩⟩ rfl rfl hl.1 rfl (lv_room (Nat.le_of_ble_eq_true rfl)) dX12_behindUnit_184 ⟨Nat.le_of_ble_eq_true rfl, Nat.le_of_ble_eq_true rfl⟩) hS (fun q _ h => hFc q h) hFc (fun r_u_69 u_69 t9 H locs ht9 hvm hw hB hz1 hk1 hS => ?_)
                have hP := fr_keep hP hk1
                have wu_69 := hw
                clear hFc hk1 hz1 hB hw
                have wu_69 : (r_u_69.toInt = 0 ∨ r_u_69.toInt = 1) ∧ (r_u_69.toInt = 0 ∨ (r_u_69.toInt = 1 ∧ (v 8).toInt = 5 ∧ sgn (v 3).toInt (f 1) (v 6).toInt = (41 : Int32).toInt)) := by
                  have h9 : (r_u_69.toInt = 0 ∨ r_u_69.toInt = 1) ∧ (r_u_69.toInt = 0 ∨ (r_u_69.toInt = 1 ∧ (v3 8).toInt = 5 ∧ sgn (v3 3).toInt (f3 1) (v3 6).toInt = (41 : Int32).toInt)) := wu_69
                  rw [(show v3 8 = (v 8) from (hV_3 8 (by decide))), (show v3 3 = (v 3) from (hV_3 3 (by decide))), (show v3 6 = (v 6) from (hV_3 6 (by decide))), (show f3 1 = (f 1) from (hF_3 1 (by decide)))] at h9
                  exact h9
                have hFc := fr_free hD hS hA
                refine va_callv (va_runV (As := [.int r_u_69]) (rest := []) ⟨hx, hb, hml, hown, ht⟩ (m_must l G cy _ mo h T (va_up (va_up v3 33 v_58) 32 v_67) nm3 f3 g3 r_u_69  hv hf hR hL (by omega) (show (v3 7).toInt ≤ (v3 3).toInt from by rw [(show v3 7 = (v 7) from (hV_3 7 (by decide))), (show v3 3 = (v 3) from (hV_3 3 (by decide)))]; omega)) (cwV 1 ht (gv k_268 k_269 k_270 k_61 k_267) rfl rfl rfl (by decide +kernel) ⟨Nat.le_of_ble_eq_true rfl, Nat.le_of_ble_eq_true rfl⟩) ⟨En.blind, va_recv hK hP (ci := 12) (q0 := 0) rfl rfl, fun U hU hW => ⟨rfl, En.of hU hW hP hK hD hN⟩⟩ rfl rfl hl.1 rfl (lv_room (Nat.le_of_ble_eq_true rfl)) dX12_behindUnit_187 ⟨Nat.le_of_ble_eq_true rfl, Nat.le_of_ble_eq_true rfl⟩) hS (fun q _ h => hFc q h) hFc (fun u_70 t9 H locs ht9 hvm hw hB hz1 hk1 hS => ?_)
                obtain ⟨v70, nm70⟩ := u_70
                obtain ⟨hP1, hD1⟩ := hB
                rw [ht9] at hP1
                obtain ⟨hv, xu_70V, wu_70, xu_70_M⟩ := hw
                dsimp only at hv xu_70V wu_70 xu_70_M
                have hP : va_P G vwCl (WMs cy mo h v70 nm70 f3 g3) H := hP1
                have hD : va_D A (WMs cy mo h v70 nm70 f3 g3) := hD1.weaken (fun _ _ _ h => hFc _ h)
                have hR : RI v70 f3 := RI.fv hR xu_70V (by decide)
                have hL : WL v70 f3 := WL.fv hL xu_70V (by decide) (by decide)
                have hV_0 := FV.tr hV_0 xu_70V (by decide)
                clear hFc hk1 hz1 hP1 hD1
                have wu_70 : ((v70 7).toInt ≤ (v 3).toInt ∧ ((v70 4).toInt ≠ 0 ∨ (v 4).toInt = 0)) := by
                  have h9 : ((v70 7).toInt ≤ (v3 3).toInt ∧ ((v70 4).toInt ≠ 0 ∨ (v3 4).toInt = 0)) := wu_70
                  rw [(show v3 3 = (v 3) from (hV_3 3 (by decide))), (show v3 4 = (v 4) from (hV_3 4 (by decide)))] at h9
                  exact h9
                have xu_70_M : 0 ≤ mz (v 3).toInt (v70 7).toInt (v70 8).toInt ∧ mz (v 3).toInt (v70 7).toInt (v70 8).toInt ≤ mz (v 3).toInt (v 7).toInt (v 8).toInt := by
                  have h9 : 0 ≤ mz (v3 3).toInt (v70 7).toInt (v70 8).toInt ∧ mz (v3 3).toInt (v70 7).toInt (v70 8).toInt ≤ mz (v3 3).toInt (v3 7).toInt (v3 8).toInt := xu_70_M
                  rw [(show v3 3 = (v 3) from (hV_3 3 (by decide))), (show v3 7 = (v 7) from (hV_3 7 (by decide))), (show v3 8 = (v 8) from (hV_3 8 (by decide)))] at h9
                  exact h9
                refine lv_iconst (v := 0) hx hb dX12_behindUnit_190 (by decide) ?_
                refine W.widen (k := 0) (n := 0) (Nat.le_of_ble_eq_true rfl) (Nat.le_of_ble_eq_true rfl) ?_
                exact W.zret (v := 0) hx hb hr rfl (fun t ht9 hW => ⟨⟨0, (v70, nm70, f3, g3), rfl, ⟨hv, hf, hR, hL, hV_0, hF_0, ⟨(by omega), (show (v70 7).toInt ≤ (v 3).toInt from by first | omega | (subst_vars; first | rfl | omega))⟩, (show 0 ≤ mz (v 3).toInt (v70 7).toInt (v70 8).toInt ∧ mz (v 3).toInt (v70 7).toInt (v70 8).toInt ≤ mz (v 3).toInt (v 7).toInt (v 8).toInt ∧ ((v70 4).toInt ≠ 0 ∨ mz (v 3).toInt (v70 7).toInt (v70 8).toInt < mz (v 3).toInt (v 7).toInt (v 8).toInt ∨ (v70 33).toInt < (v 33).toInt) from by rw [(show v70 33 = v_58 from (xu_70V 33 (by decide)))]; omega), (show (v70 4).toInt = 0 → EI (0 : Int32).toInt (v 30).toInt Fz (v70 31).toInt (v70 33).toInt (v70 32).toInt ((f3 13) (Int32.toNatClampNeg (v 30))).toInt (f3 26) (f3 27) (f3 24) (f3 25) from by rw [(show v70 31 = (v3 31) from (xu_70V 31 (by decide))), (show v70 33 = v_58 from (xu_70V 33 (by decide))), (show v70 32 = v_67 from (xu_70V 32 (by decide))), (show f3 13 = (f 13) from (hF_3 13 (by decide))), (show f3 26 = (f 26) from (hF_3 26 (by decide))), (show f3 27 = (f 27) from (hF_3 27 (by decide)))]; exact fun h9 => EI.cast (EI.close (w' := v_67.toInt) qf3_0 (by omega) (by omega) (by omega)).2 (by omega) (by omega) (by omega) (by omega) rfl), (show OUT Fz (600 * (v 30).toInt + 600) (f 24) (f 25) (f3 24) (f3 25) from by exact qf3_1)⟩, ⟨by rw [ht9]; exact hP, hD⟩⟩, hS.F ht9⟩) hS.2.2 dX12_behindUnit_191
            · have q_71 : (0 : Int32).toInt < r_u_1.toInt := by have := (not_congr (ow_le _ _)).mp c_56; omega
              refine lv_aload_n hx hb dX12_behindUnit_107 rfl (lv_at hl 1 rfl) ?_
              refine lv_iload_n hx hb dX12_behindUnit_108 rfl (lv_at hl 0 rfl) ?_
              refine lv_iload_n hx hb dX12_behindUnit_109 rfl (lv_at hl 0 rfl) ?_
              refine lv_iconst (v := 2) hx hb dX12_behindUnit_110 (by decide) ?_
              refine lv_icmp_ne (tgt := 119) hx hb dX12_behindUnit_111 (by decide) (fun c_72 => ?_) (fun c_72 => ?_)
              · have q_73 : ¬ r_u_1.toInt = (2 : Int32).toInt := by have := (not_congr (ow_eq _ _)).mp c_72; omega
                refine lv_iload_n hx hb dX12_behindUnit_119 rfl (lv_at hl 0 rfl) ?_
                refine lv_iconst (v := 1) hx hb dX12_behindUnit_120 (by decide) ?_
                refine lv_icmp_ne (tgt := 129) hx hb dX12_behindUnit_121 (by decide) (fun c_74 => ?_) (fun c_74 => ?_)
                · have q_75 : ¬ r_u_1.toInt = (1 : Int32).toInt := by have := (not_congr (ow_eq _ _)).mp c_74; omega
                  refine lv_aload_n hx hb dX12_behindUnit_129 rfl (lv_at hl 1 rfl) ?_
                  refine lv_aload_n hx hb dX12_behindUnit_130 rfl (lv_at hl 1 rfl) ?_
                  refine mg_6 hx hb ht hown hK hP dX12_behindUnit_131 ?_
                  refine ow_top (v 6) (hV_3 6 (by decide)) ?_
                  have q_76 : 0 ≤ (v 6).toInt ∧ (v 6).toInt ≤ 1700 := by have h9 : v3 6 = (v 6) := (hV_3 6 (by decide)); rw [← h9]; exact hv 6
                  have hFc := fr_new hS hA
                  refine va_calli (va_runV (As := [.int (v 6)]) (rest := [.int r_u_1, .ref mo]) ⟨hx, hb, hml, hown, ht⟩ (m_sign l G cy _ mo h T v3 nm3 f3 g3 (v 6)  hv hf hR hL (by omega)) (cwV 1 ht (gv k_207 k_208 k_209 k_61 k_206) rfl rfl rfl (by decide +kernel) ⟨Nat.le_of_ble_eq_true rfl, Nat.le_of_ble_eq_true rfl⟩) ⟨En.blind, va_recv hK hP (ci := 12) (q0 := 0) rfl rfl, fun U hU hW => ⟨rfl, En.of hU hW hP hK hD hN⟩⟩ rfl rfl hl.1 rfl (lv_room (Nat.le_of_ble_eq_true rfl)) dX12_behindUnit_134 ⟨Nat.le_of_ble_eq_true rfl, Nat.le_of_ble_eq_true rfl⟩) hS (fun q _ h => hFc q h) hFc (fun r_u_77 u_77 t9 H locs ht9 hvm hw hB hz1 hk1 hS => ?_)
                  have hP := fr_keep hP hk1
                  have wu_77 := hw
                  clear hFc hk1 hz1 hB hw
                  have wu_77 : (0 ≤ r_u_77.toInt ∧ r_u_77.toInt ≤ 255) ∧ (r_u_77.toInt = sgn (v 3).toInt (f 1) (v 6).toInt ∧ (r_u_77.toInt = 0 ∨ (v 6).toInt < (v 3).toInt)) := by
                    have h9 : (0 ≤ r_u_77.toInt ∧ r_u_77.toInt ≤ 255) ∧ (r_u_77.toInt = sgn (v3 3).toInt (f3 1) (v 6).toInt ∧ (r_u_77.toInt = 0 ∨ (v 6).toInt < (v3 3).toInt)) := wu_77
                    rw [(show v3 3 = (v 3) from (hV_3 3 (by decide))), (show f3 1 = (f 1) from (hF_3 1 (by decide)))] at h9
                    exact h9
                  have hFc := fr_free hD hS hA
                  refine va_callv (va_runV (As := [.int r_u_1, .int r_u_77]) (rest := []) ⟨hx, hb, hml, hown, ht⟩ (m_pushE l G cy _ mo h T v3 nm3 f3 g3 r_u_1 r_u_77 ((v3 33)) hv hf hR hL rfl (show 0 ≤ ((v3 33)).toInt ∧ ((v3 33)).toInt ≤ 119 from by omega)) (cwV 2 ht (gv k_252 k_253 k_254 k_61 k_251) rfl rfl rfl (by decide +kernel) ⟨Nat.le_of_ble_eq_true rfl, Nat.le_of_ble_eq_true rfl⟩) ⟨En.blind, va_recv hK hP (ci := 12) (q0 := 0) rfl rfl, fun U hU hW => ⟨rfl, En.of hU hW hP hK hD hN⟩⟩ rfl rfl hl.1 rfl (lv_room (Nat.le_of_ble_eq_true rfl)) dX12_behindUnit_137 ⟨Nat.le_of_ble_eq_true rfl, Nat.le_of_ble_eq_true rfl⟩) hS (fun q _ h => hFc q h) hFc (fun u_78 t9 H locs ht9 hvm hw hB hz1 hk1 hS => ?_)
                  obtain ⟨hP1, hD1⟩ := hB
                  rw [ht9] at hP1
                  have wu_78 := hw
                  have q_80 : ((v3 33) + 1).toInt = (v3 33).toInt + 1 := ow_add rfl (by omega) (by omega)
                  have hv := MIv.up 33 hv (show 0 ≤ ((v3 33) + 1).toInt ∧ ((v3 33) + 1).toInt ≤ 120 from by omega)
                  have hR : RI (va_up v3 33 ((v3 33) + 1)) f3 := RI.upv 33 hR (by decide)
                  have hL : WL (va_up v3 33 ((v3 33) + 1)) f3 := WL.upv 33 hL (by decide)
                  have hV_0 := FV.up hV_0 33 ((v3 33) + 1) (by decide)
                  have hf := MIf.up 26 (i := (Int32.toNatClampNeg (v3 33))) hf (ow_any r_u_1)
                  have hF_0 := FF.up hF_0 26 (upd (f3 26) (Int32.toNatClampNeg (v3 33)) r_u_1) (by decide)
                  have hR : RI (va_up v3 33 ((v3 33) + 1)) (va_up f3 26 (upd (f3 26) (Int32.toNatClampNeg (v3 33)) r_u_1)) := RI.up 26 hR (by decide)
                  have hL : WL (va_up v3 33 ((v3 33) + 1)) (va_up f3 26 (upd (f3 26) (Int32.toNatClampNeg (v3 33)) r_u_1)) := WL.upf 26 hL (by decide)
                  have hf := MIf.up 27 (i := (Int32.toNatClampNeg (v3 33))) hf (ow_any r_u_77)
                  have hF_0 := FF.up hF_0 27 (upd ((va_up f3 26 (upd (f3 26) (Int32.toNatClampNeg (v3 33)) r_u_1)) 27) (Int32.toNatClampNeg (v3 33)) r_u_77) (by decide)
                  have hR : RI (va_up v3 33 ((v3 33) + 1)) (va_up (va_up f3 26 (upd (f3 26) (Int32.toNatClampNeg (v3 33)) r_u_1)) 27 (upd ((va_up f3 26 (upd (f3 26) (Int32.toNatClampNeg (v3 33)) r_u_1)) 27) (Int32.toNatClampNeg (v3 33)) r_u_77)) := RI.up 27 hR (by decide)
                  have hL : WL (va_up v3 33 ((v3 33) + 1)) (va_up (va_up f3 26 (upd (f3 26) (Int32.toNatClampNeg (v3 33)) r_u_1)) 27 (upd ((va_up f3 26 (upd (f3 26) (Int32.toNatClampNeg (v3 33)) r_u_1)) 27) (Int32.toNatClampNeg (v3 33)) r_u_77)) := WL.upf 27 hL (by decide)
                  have hP : va_P G vwCl (WMs cy mo h (va_up v3 33 ((v3 33) + 1)) nm3 (va_up (va_up f3 26 (upd (f3 26) (Int32.toNatClampNeg (v3 33)) r_u_1)) 27 (upd ((va_up f3 26 (upd (f3 26) (Int32.toNatClampNeg (v3 33)) r_u_1)) 27) (Int32.toNatClampNeg (v3 33)) r_u_77)) g3) H := hP1
                  have hD : va_D A (WMs cy mo h (va_up v3 33 ((v3 33) + 1)) nm3 (va_up (va_up f3 26 (upd (f3 26) (Int32.toNatClampNeg (v3 33)) r_u_1)) 27 (upd ((va_up f3 26 (upd (f3 26) (Int32.toNatClampNeg (v3 33)) r_u_1)) 27) (Int32.toNatClampNeg (v3 33)) r_u_77)) g3) := hD1.weaken (fun _ _ _ h => hFc _ h)
                  clear hFc hk1 hz1 hP1 hD1 hw
                  refine lv_aload_n hx hb dX12_behindUnit_140 rfl (lv_at hl 1 rfl) ?_
                  have hFc := fr_free hD hS hA
                  refine va_callv (va_runV (As := []) (rest := []) ⟨hx, hb, hml, hown, ht⟩ (m_goOn l G cy _ mo h T (va_up v3 33 ((v3 33) + 1)) nm3 (va_up (va_up f3 26 (upd (f3 26) (Int32.toNatClampNeg (v3 33)) r_u_1)) 27 (upd ((va_up f3 26 (upd (f3 26) (Int32.toNatClampNeg (v3 33)) r_u_1)) 27) (Int32.toNatClampNeg (v3 33)) r_u_77)) g3   hv hf hR hL (show (v3 7).toInt ≤ (v3 3).toInt from by rw [(show v3 7 = (v 7) from (hV_3 7 (by decide))), (show v3 3 = (v 3) from (hV_3 3 (by decide)))]; omega)) (cwV 0 ht (gv k_232 k_233 k_234 k_61 k_231) rfl rfl rfl (by decide +kernel) ⟨Nat.le_of_ble_eq_true rfl, Nat.le_of_ble_eq_true rfl⟩) ⟨En.blind, va_recv hK hP (ci := 12) (q0 := 0) rfl rfl, fun U hU hW => ⟨rfl, En.of hU hW hP hK hD hN⟩⟩ rfl rfl hl.1 rfl (lv_room (Nat.le_of_ble_eq_true rfl)) dX12_behindUnit_141 ⟨Nat.le_of_ble_eq_true rfl, Nat.le_of_ble_eq_true rfl⟩) hS (fun q _ h => hFc q h) hFc (fun u_81 t9 H locs ht9 hvm hw hB hz1 hk1 hS => ?_)
                  obtain ⟨v81, nm81⟩ := u_81
                  obtain ⟨hP1, hD1⟩ := hB
                  rw [ht9] at hP1
                  obtain ⟨hv, xu_81V, wu_81, xu_81_M⟩ := hw
                  dsimp only at hv xu_81V wu_81 xu_81_M
                  have hP : va_P G vwCl (WMs cy mo h v81 nm81 (va_up (va_up f3 26 (upd (f3 26) (Int32.toNatClampNeg (v3 33)) r_u_1)) 27 (upd ((va_up f3 26 (upd (f3 26) (Int32.toNatClampNeg (v3 33)) r_u_1)) 27) (Int32.toNatClampNeg (v3 33)) r_u_77)) g3) H := hP1
                  have hD : va_D A (WMs cy mo h v81 nm81 (va_up (va_up f3 26 (upd (f3 26) (Int32.toNatClampNeg (v3 33)) r_u_1)) 27 (upd ((va_up f3 26 (upd (f3 26) (Int32.toNatClampNeg (v3 33)) r_u_1)) 27) (Int32.toNatClampNeg (v3 33)) r_u_77)) g3) := hD1.weaken (fun _ _ _ h => hFc _ h)
                  have hR : RI v81 (va_up (va_up f3 26 (upd (f3 26) (Int32.toNatClampNeg (v3 33)) r_u_1)) 27 (upd ((va_up f3 26 (upd (f3 26) (Int32.toNatClampNeg (v3 33)) r_u_1)) 27) (Int32.toNatClampNeg (v3 33)) r_u_77)) := RI.fv hR xu_81V (by decide)
                  have hL : WL v81 (va_up (va_up f3 26 (upd (f3 26) (Int32.toNatClampNeg (v3 33)) r_u_1)) 27 (upd ((va_up f3 26 (upd (f3 26) (Int32.toNatClampNeg (v3 33)) r_u_1)) 27) (Int32.toNatClampNeg (v3 33)) r_u_77)) := WL.fv hL xu_81V (by decide) (by decide)
                  have hV_0 := FV.tr hV_0 xu_81V (by decide)
                  clear hFc hk1 hz1 hP1 hD1
                  have wu_81 : ((v81 7).toInt ≤ (v 3).toInt ∧ (((v81 8).toInt = 0 ∧ (v81 7).toInt = (v 3).toInt) ∨ ((v81 8).toInt ≠ 0 ∧ (v 7).toInt < (v81 7).toInt))) := by
                    have h9 : ((v81 7).toInt ≤ (v3 3).toInt ∧ (((v81 8).toInt = 0 ∧ (v81 7).toInt = (v3 3).toInt) ∨ ((v81 8).toInt ≠ 0 ∧ (v3 7).toInt < (v81 7).toInt))) := wu_81
                    rw [(show v3 3 = (v 3) from (hV_3 3 (by decide))), (show v3 7 = (v 7) from (hV_3 7 (by decide)))] at h9
                    exact h9
                  have xu_81_M : 0 ≤ mz (v 3).toInt (v81 7).toInt (v81 8).toInt ∧ mz (v 3).toInt (v81 7).toInt (v81 8).toInt ≤ mz (v 3).toInt (v 7).toInt (v 8).toInt ∧ ((v 8).toInt = 0 ∨ mz (v 3).toInt (v81 7).toInt (v81 8).toInt < mz (v 3).toInt (v 7).toInt (v 8).toInt) := by
                    have h9 : 0 ≤ mz (v3 3).toInt (v81 7).toInt (v81 8).toInt ∧ mz (v3 3).toInt (v81 7).toInt (v81 8).toInt ≤ mz (v3 3).toInt (v3 7).toInt (v3 8).toInt ∧ ((v3 8).toInt = 0 ∨ mz (v3 3).toInt (v81 7).toInt (v81 8).toInt < mz (v3 3).toInt (v3 7).toInt (v3 8).toInt) := xu_81_M
                    rw [(show v3 3 = (v 3) from (hV_3 3 (by decide))), (show v3 7 = (v 7) from (hV_3 7 (by decide))), (show v3 8 = (v 8) from (hV_3 8 (by decide)))] at h9
                    exact h9
                  refine lv_iconst (v := 1) hx hb dX12_behindUnit_144 (by decide) ?_
                  refine W.widen (k := 0) (n := 0) (Nat.le_of_ble_eq_true rfl) (Nat.le_of_ble_eq_true rfl) ?_
                  exact W.zret (v := 1) hx hb hr rfl (fun t ht9 hW => ⟨⟨1, (v81, nm81, (va_up (va_up f3 26 (upd (f3 26) (Int32.toNatClampNeg (v3 33)) r_u_1)) 27 (upd ((va_up f3 26 (upd (f3 26) (Int32.toNatClampNeg (v3 33)) r_u_1)) 27) (Int32.toNatClampNeg (v3 33)) r_u_77)), g3), rfl, ⟨hv, hf, hR, hL, hV_0, hF_0, ⟨(by omega), (show (v81 7).toInt ≤ (v 3).toInt from by first | omega | (subst_vars; first | rfl | omega))⟩, (show 0 ≤ mz (v 3).toInt (v81 7).toInt (v81 8).toInt ∧ mz (v 3).toInt (v81 7).toInt (v81 8).toInt ≤ mz (v 3).toInt (v 7).toInt (v 8).toInt ∧ ((v81 4).toInt ≠ 0 ∨ mz (v 3).toInt (v81 7).toInt (v81 8).toInt < mz (v 3).toInt (v 7).toInt (v 8).toInt ∨ (v81 33).toInt < (v 33).toInt) from by rw [(show v81 4 = (v 4) from ((xu_81V 4 (by decide)).trans (hV_3 4 (by decide)))), (show v81 33 = ((v3 33) + 1) from (xu_81V 33 (by decide)))]; omega), (show (v81 4).toInt = 0 → EI (1 : Int32).toInt (v 30).toInt Fz (v81 31).toInt (v81 33).toInt (v81 32).toInt ((f3 13) (Int32.toNatClampNeg (v 30))).toInt (f3 26) (f3 27) (f3 24) (f3 25) from by rw [(show v81 4 = (v 4) from ((xu_81V 4 (by decide)).trans (hV_3 4 (by decide)))), (show v81 31 = (v3 31) from (xu_81V 31 (by decide))), (show v81 33 = ((v3 33) + 1) from (xu_81V 33 (by decide))), (show v81 32 = (v3 32) from (xu_81V 32 (by decide))), (show f3 13 = (f 13) from (hF_3 13 (by decide))), (show f3 26 = (upd (f 26) (Int32.toNatClampNeg (v3 33)) r_u_1) from (congrArg (fun z : Nat → Int32 => upd z (Int32.toNatClampNeg (v3 33)) r_u_1) (hF_3 26 (by decide)))), (show f3 27 = (upd (f 27) (Int32.toNatClampNeg (v3 33)) r_u_77) from (congrArg (fun z : Nat → Int32 => upd z (Int32.toNatClampNeg (v3 33)) r_u_77) (hF_3 27 (by decide))))]; exact fun h9 => EI.cast (EI.push qf3_0 (by omega) (by omega) (by omega)) (by omega) (by omega) (by omega) (by omega) rfl), (show OUT Fz (600 * (v 30).toInt + 600) (f 24) (f 25) (f3 24) (f3 25) from by exact qf3_1)⟩, ⟨by rw [ht9]; exact hP, hD⟩⟩, hS.F ht9⟩) hS.2.2 dX12_behindUnit_145
                · have q_82 : r_u_1.toInt = (1 : Int32).toInt := (ow_eq _ _).mp c_74
                  refine lv_bipush (v := 124) hx hb dX12_behindUnit_124 (by decide) ?_
                  refine lv_goto (tgt := 137) hx hb dX12_behindUnit_126 (by decide) ?_
                  have hFc := fr_free hD hS hA
                  refine va_callv (va_runV (As := [.int r_u_1, .int 124]) (rest := []) ⟨hx, hb, hml, hown, ht⟩ (m_pushE l G cy _ mo h T v3 nm3 f3 g3 r_u_1 (124) ((v3 33)) hv hf hR hL rfl (show 0 ≤ ((v3 33)).toInt ∧ ((v3 33)).toInt ≤ 119 from by omega)) (cwV 2 ht (gv k_252 k_253 k_254 k_61 k_251) rfl rfl rfl (by decide +kernel) ⟨Nat.le_of_ble_eq_true rfl, Nat.le_of_ble_eq_true rfl⟩) ⟨En.blind, va_recv hK hP (ci := 12) (q0 := 0) rfl rfl, fun U hU hW => ⟨rfl, En.of hU hW hP hK hD hN⟩⟩ rfl rfl hl.1 rfl (lv_room (Nat.le_of_ble_eq_true rfl)) dX12_behindUnit_137 ⟨Nat.le_of_ble_eq_true rfl, Nat.le_of_ble_eq_true rfl⟩) hS (fun q _ h => hFc q h) hFc (fun u_83 t9 H locs ht9 hvm hw hB hz1 hk1 hS => ?_)
                  obtain ⟨hP1, hD1⟩ := hB
                  rw [ht9] at hP1
                  have wu_83 := hw
                  have q_85 : ((v3 33) + 1).toInt = (v3 33).toInt + 1 := ow_add rfl (by omega) (by omega)
                  have hv := MIv.up 33 hv (show 0 ≤ ((v3 33) + 1).toInt ∧ ((v3 33) + 1).toInt ≤ 120 from by omega)
                  have hR : RI (va_up v3 33 ((v3 33) + 1)) f3 := RI.upv 33 hR (by decide)
                  have hL : WL (va_up v3 33 ((v3 33) + 1)) f3 := WL.upv 33 hL (by decide)
                  have hV_0 := FV.up hV_0 33 ((v3 33) + 1) (by decide)
                  have hf := MIf.up 26 (i := (Int32.toNatClampNeg (v3 33))) hf (ow_any r_u_1)
                  have hF_0 := FF.up hF_0 26 (upd (f3 26) (Int32.toNatClampNeg (v3 33)) r_u_1) (by decide)
                  have hR : RI (va_up v3 33 ((v3 33) + 1)) (va_up f3 26 (upd (f3 26) (Int32.toNatClampNeg (v3 33)) r_u_1)) := RI.up 26 hR (by decide)
                  have hL : WL (va_up v3 33 ((v3 33) + 1)) (va_up f3 26 (upd (f3 26) (Int32.toNatClampNeg (v3 33)) r_u_1)) := WL.upf 26 hL (by decide)
                  have hf := MIf.up 27 (i := (Int32.toNatClampNeg (v3 33))) hf (ow_any (124 : Int32))
                  have hF_0 := FF.up hF_0 27 (upd ((va_up f3 26 (upd (f3 26) (Int32.toNatClampNeg (v3 33)) r_u_1)) 27) (Int32.toNatClampNeg (v3 33)) (124 : Int32)) (by decide)
                  have hR : RI (va_up v3 33 ((v3 33) + 1)) (va_up (va_up f3 26 (upd (f3 26) (Int32.toNatClampNeg (v3 33)) r_u_1)) 27 (upd ((va_up f3 26 (upd (f3 26) (Int32.toNatClampNeg (v3 33)) r_u_1)) 27) (Int32.toNatClampNeg (v3 33)) (124 : Int32))) := RI.up 27 hR (by decide)
                  have hL : WL (va_up v3 33 ((v3 33) + 1)) (va_up (va_up f3 26 (upd (f3 26) (Int32.toNatClampNeg (v3 33)) r_u_1)) 27 (upd ((va_up f3 26 (upd (f3 26) (Int32.toNatClampNeg (v3 33)) r_u_1)) 27) (Int32.toNatClampNeg (v3 33)) (124 : Int32))) := WL.upf 27 hL (by decide)
                  have hP : va_P G vwCl (WMs cy mo h (va_up v3 33 ((v3 33) + 1)) nm3 (va_up (va_up f3 26 (upd (f3 26) (Int32.toNatClampNeg (v3 33)) r_u_1)) 27 (upd ((va_up f3 26 (upd (f3 26) (Int32.toNatClampNeg (v3 33)) r_u_1)) 27) (Int32.toNatClampNeg (v3 33)) (124 : Int32))) g3) H := hP1
                  have hD : va_D A (WMs cy mo h (va_up v3 33 ((v3 33) + 1)) nm3 (va_up (va_up f3 26 (upd (f3 26) (Int32.toNatClampNeg (v3 33)) r_u_1)) 27 (upd ((va_up f3 26 (upd (f3 26) (Int32.toNatClampNeg (v3 33)) r_u_1)) 27) (Int32.toNatClampNeg (v3 33)) (124 : Int32))) g3) := hD1.weaken (fun _ _ _ h => hFc _ h)
                  clear hFc hk1 hz1 hP1 hD1 hw
                  refine lv_aload_n hx hb dX12_behindUnit_140 rfl (lv_at hl 1 rfl) ?_
                  have hFc := fr_free hD hS hA
                  refine va_callv (va_runV (As := []) (rest := []) ⟨hx, hb, hml, hown, ht⟩ (m_goOn l G cy _ mo h T (va_up v3 33 ((v3 33) + 1)) nm3 (va_up (va_up f3 26 (upd (f3 26) (Int32.toNatClampNeg (v3 33)) r_u_1)) 27 (upd ((va_up f3 26 (upd (f3 26) (Int32.toNatClampNeg (v3 33)) r_u_1)) 27) (Int32.toNatClampNeg (v3 33)) (124 : Int32))) g3   hv hf hR hL (show (v3 7).toInt ≤ (v3 3).toInt from by rw [(show v3 7 = (v 7) from (hV_3 7 (by decide))), (show v3 3 = (v 3) from (hV_3 3 (by decide)))]; omega)) (cwV 0 ht (gv k_232 k_233 k_234 k_61 k_231) rfl rfl rfl (by decide +kernel) ⟨Nat.le_of_ble_eq_true rfl, Nat.le_of_ble_eq_true rfl⟩) ⟨En.blind, va_recv hK hP (ci := 12) (q0 := 0) rfl rfl, fun U hU hW => ⟨rfl, En.of hU hW hP hK hD hN⟩⟩ rfl rfl hl.1 rfl (lv_room (Nat.le_of_ble_eq_true rfl)) dX12_behindUnit_141 ⟨Nat.le_of_ble_eq_true rfl, Nat.le_of_ble_eq_true rfl⟩) hS (fun q _ h => hFc q h) hFc (fun u_86 t9 H locs ht9 hvm hw hB hz1 hk1 hS => ?_)
                  obtain ⟨v86, nm86⟩ := u_86
                  obtain ⟨hP1, hD1⟩ := hB
                  rw [ht9] at hP1
                  obtain ⟨hv, xu_86V, wu_86, xu_86_M⟩ := hw
                  dsimp only at hv xu_86V wu_86 xu_86_M
                  have hP : va_P G vwCl (WMs cy mo h v86 nm86 (va_up (va_up f3 26 (upd (f3 26) (Int32.toNatClampNeg (v3 33)) r_u_1)) 27 (upd ((va_up f3 26 (upd (f3 26) (Int32.toNatClampNeg (v3 33)) r_u_1)) 27) (Int32.toNatClampNeg (v3 33)) (124 : Int32))) g3) H := hP1
                  have hD : va_D A (WMs cy mo h v86 nm86 (va_up (va_up f3 26 (upd (f3 26) (Int32.toNatClampNeg (v3 33)) r_u_1)) 27 (upd ((va_up f3 26 (upd (f3 26) (Int32.toNatClampNeg (v3 33)) r_u_1)) 27) (Int32.toNatClampNeg (v3 33)) (124 : Int32))) g3) := hD1.weaken (fun _ _ _ h => hFc _ h)
                  have hR : RI v86 (va_up (va_up f3 26 (upd (f3 26) (Int32.toNatClampNeg (v3 33)) r_u_1)) 27 (upd ((va_up f3 26 (upd (f3 26) (Int32.toNatClampNeg (v3 33)) r_u_1)) 27) (Int32.toNatClampNeg (v3 33)) (124 : Int32))) := RI.fv hR xu_86V (by decide)
                  have hL : WL v86 (va_up (va_up f3 26 (upd (f3 26) (Int32.toNatClampNeg (v3 33)) r_u_1)) 27 (upd ((va_up f3 26 (upd (f3 26) (Int32.toNatClampNeg (v3 33)) r_u_1)) 27) (Int32.toNatClampNeg (v3 33)) (124 : Int32))) := WL.fv hL xu_86V (by decide) (by decide)
                  have hV_0 := FV.tr hV_0 xu_86V (by decide)
                  clear hFc hk1 hz1 hP1 hD1
                  have wu_86 : ((v86 7).toInt ≤ (v 3).toInt ∧ (((v86 8).toInt = 0 ∧ (v86 7).toInt = (v 3).toInt) ∨ ((v86 8).toInt ≠ 0 ∧ (v 7).toInt < (v86 7).toInt))) := by
                    have h9 : ((v86 7).toInt ≤ (v3 3).toInt ∧ (((v86 8).toInt = 0 ∧ (v86 7).toInt = (v3 3).toInt) ∨ ((v86 8).toInt ≠ 0 ∧ (v3 7).toInt < (v86 7).toInt))) := wu_86
                    rw [(show v3 3 = (v 3) from (hV_3 3 (by decide))), (show v3 7 = (v 7) from (hV_3 7 (by decide)))] at h9
                    exact h9
                  have xu_86_M : 0 ≤ mz (v 3).toInt (v86 7).toInt (v86 8).toInt ∧ mz (v 3).toInt (v86 7).toInt (v86 8).toInt ≤ mz (v 3).toInt (v 7).toInt (v 8).toInt ∧ ((v 8).toInt = 0 ∨ mz (v 3).toInt (v86 7).toInt (v86 8).toInt < mz (v 3).toInt (v 7).toInt (v 8).toInt) := by
                    have h9 : 0 ≤ mz (v3 3).toInt (v86 7).toInt (v86 8).toInt ∧ mz (v3 3).toInt (v86 7).toInt (v86 8).toInt ≤ mz (v3 3).toInt (v3 7).toInt (v3 8).toInt ∧ ((v3 8).toInt = 0 ∨ mz (v3 3).toInt (v86 7).toInt (v86 8).toInt < mz (v3 3).toInt (v3 7).toInt (v3 8).toInt) := xu_86_M
                    rw [(show v3 3 = (v 3) from (hV_3 3 (by decide))), (show v3 7 = (v 7) from (hV_3 7 (by decide))), (show v3 8 = (v 8) from (hV_3 8 (by decide)))] at h9
                    exact h9
                  refine lv_iconst (v := 1) hx hb dX12_behindUnit_144 (by decide) ?_
                  refine W.widen (k := 0) (n := 0) (Nat.le_of_ble_eq_true rfl) (Nat.le_of_ble_eq_true rfl) ?_
                  exact W.zret (v := 1) hx hb hr rfl (fun t ht9 hW => ⟨⟨1, (v86, nm86, (va_up (va_up f3 26 (upd (f3 26) (Int32.toNatClampNeg (v3 33)) r_u_1)) 27 (upd ((va_up f3 26 (upd (f3 26) (Int32.toNatClampNeg (v3 33)) r_u_1)) 27) (Int32.toNatClampNeg (v3 33)) (124 : Int32))), g3), rfl, ⟨hv, hf, hR, hL, hV_0, hF_0, ⟨(by omega), (show (v86 7).toInt ≤ (v 3).toInt from by first | omega | (subst_vars; first | rfl | omega))⟩, (show 0 ≤ mz (v 3).toInt (v86 7).toInt (v86 8).toInt ∧ mz (v 3).toInt (v86 7).toInt (v86 8).toInt ≤ mz (v 3).toInt (v 7).toInt (v 8).toInt ∧ ((v86 4).toInt ≠ 0 ∨ mz (v 3).toInt (v86 7).toInt (v86 8).toInt < mz (v 3).toInt (v 7).toInt (v 8).toInt ∨ (v86 33).toInt < (v 33).toInt) from by rw [(show v86 4 = (v 4) from ((xu_86V 4 (by decide)).trans (hV_3 4 (by decide)))), (show v86 33 = ((v3 33) + 1) from (xu_86V 33 (by decide)))]; omega), (show (v86 4).toInt = 0 → EI (1 : Int32).toInt (v 30).toInt Fz (v86 31).toInt (v86 33).toInt (v86 32).toInt ((f3 13) (Int32.toNatClampNeg (v 30))).toInt (f3 26) (f3 27) (f3 24) (f3 25) from by rw [(show v86 4 = (v 4) from ((xu_86V 4 (by decide)).trans (hV_3 4 (by decide)))), (show v86 31 = (v3 31) from (xu_86V 31 (by decide))), (show v86 33 = ((v3 33) + 1) from (xu_86V 33 (by decide))), (show v86 32 = (v3 32) from (xu_86V 32 (by decide))), (show f3 13 = (f 13) from (hF_3 13 (by decide))), (show f3 26 = (upd (f 26) (Int32.toNatClampNeg (v3 33)) r_u_1) from (congrArg (fun z : Nat → Int32 => upd z (Int32.toNatClampNeg (v3 33)) r_u_1) (hF_3 26 (by decide)))), (show f3 27 = (upd (f 27) (Int32.toNatClampNeg (v3 33)) (124 : Int32)) from (congrArg (fun z : Nat → Int32 => upd z (Int32.toNatClampNeg (v3 33)) (124 : Int32)) (hF_3 27 (by decide))))]; exact fun h9 => EI.cast (EI.push qf3_0 (by omega) (by omega) (by omega)) (by omega) (by omega) (by omega) (by omega) rfl), (show OUT Fz (600 * (v 30).toInt + 600) (f 24) (f 25) (f3 24) (f3 25) from by exact qf3_1)⟩, ⟨by rw [ht9]; exact hP, hD⟩⟩, hS.F ht9⟩) hS.2.2 dX12_behindUnit_145
              · have q_87 : r_u_1.toInt = (2 : Int32).toInt := (ow_eq _ _).mp c_72
                refine lv_bipush (v := 38) hx hb dX12_behindUnit_114 (by decide) ?_
                refine lv_goto (tgt := 137) hx hb dX12_behindUnit_116 (by decide) ?_
                have hFc := fr_free hD hS hA
                refine va_callv (va_runV (As := [.int r_u_1, .int 38]) (rest := []) ⟨hx, hb, hml, hown, ht⟩ (m_pushE l G cy _ mo h T v3 nm3 f3 g3 r_u_1 (38) ((v3 33)) hv hf hR hL rfl (show 0 ≤ ((v3 33)).toInt ∧ ((v3 33)).toInt ≤ 119 from by omega)) (cwV 2 ht (gv k_252 k_253 k_254 k_61 k_251) rfl rfl rfl (by decide +kernel) ⟨Nat.le_of_ble_eq_true rfl, Nat.le_of_ble_eq_true rfl⟩) ⟨En.blind, va_recv hK hP (ci := 12) (q0 := 0) rfl rfl, fun U hU hW => ⟨rfl, En.of hU hW hP hK hD hN⟩⟩ rfl rfl hl.1 rfl (lv_room (Nat.le_of_ble_eq_true rfl)) dX12_behindUnit_137 ⟨Nat.le_of_ble_eq_true rfl, Nat.le_of_ble_eq_true rfl⟩) hS (fun q _ h => hFc q h) hFc (fun u_88 t9 H locs ht9 hvm hw hB hz1 hk1 hS => ?_)
                obtain ⟨hP1, hD1⟩ := hB
                rw [ht9] at hP1
                have wu_88 := hw
                have q_90 : ((v3 33) + 1).toInt = (v3 33).toInt + 1 := ow_add rfl (by omega) (by omega)
                have hv := MIv.up 33 hv (show 0 ≤ ((v3 33) + 1).toInt ∧ ((v3 33) + 1).toInt ≤ 120 from by omega)
                have hR : RI (va_up v3 33 ((v3 33) + 1)) f3 := RI.upv 33 hR (by decide)
                have hL : WL (va_up v3 33 ((v3 33) + 1)) f3 := WL.upv 33 hL (by decide)
                have hV_0 := FV.up hV_0 33 ((v3 33) + 1) (by decide)
                have hf := MIf.up 26 (i := (Int32.toNatClampNeg (v3 33))) hf (ow_any r_u_1)
                have hF_0 := FF.up hF_0 26 (upd (f3 26) (Int32.toNatClampNeg (v3 33)) r_u_1) (by decide)
                have hR : RI (va_up v3 33 ((v3 33) + 1)) (va_up f3 26 (upd (f3 26) (Int32.toNatClampNeg (v3 33)) r_u_1)) := RI.up 26 hR (by decide)
                have hL : WL (va_up v3 33 ((v3 33) + 1)) (va_up f3 26 (upd (f3 26) (Int32.toNatClampNeg (v3 33)) r_u_1)) := WL.upf 26 hL (by decide)
                have hf := MIf.up 27 (i := (Int32.toNatClampNeg (v3 33))) hf (ow_any (38 : Int32))
                have hF_0 := FF.up hF_0 27 (upd ((va_up f3 26 (upd (f3 26) (Int32.toNatClampNeg (v3 33)) r_u_1)) 27) (Int32.toNatClampNeg (v3 33)) (38 : Int32)) (by decide)
                have hR : RI (va_up v3 33 ((v3 33) + 1)) (va_up (va_up f3 26 (upd (f3 26) (Int32.toNatClampNeg (v3 33)) r_u_1)) 27 (upd ((va_up f3 26 (upd (f3 26) (Int32.toNatClampNeg (v3 33)) r_u_1)) 27) (Int32.toNatClampNeg (v3 33)) (38 : Int32))) := RI.up 27 hR (by decide)
                have hL : WL (va_up v3 33 ((v3 33) + 1)) (va_up (va_up f3 26 (upd (f3 26) (Int32.toNatClampNeg (v3 33)) r_u_1)) 27 (upd ((va_up f3 26 (upd (f3 26) (Int32.toNatClampNeg (v3 33)) r_u_1)) 27) (Int32.toNatClampNeg (v3 33)) (38 : Int32))) := WL.upf 27 hL (by decide)
                have hP : va_P G vwCl (WMs cy mo h (va_up v3 33 ((v3 33) + 1)) nm3 (va_up (va_up f3 26 (upd (f3 26) (Int32.toNatClampNeg (v3 33)) r_u_1)) 27 (upd ((va_up f3 26 (upd (f3 26) (Int32.toNatClampNeg (v3 33)) r_u_1)) 27) (Int32.toNatClampNeg (v3 33)) (38 : Int32))) g3) H := hP1
                have hD : va_D A (WMs cy mo h (va_up v3 33 ((v3 33) + 1)) nm3 (va_up (va_up f3 26 (upd (f3 26) (Int32.toNatClampNeg (v3 33)) r_u_1)) 27 (upd ((va_up f3 26 (upd (f3 26) (Int32.toNatClampNeg (v3 33)) r_u_1)) 27) (Int32.toNatClampNeg (v3 33)) (38 : Int32))) g3) := hD1.weaken (fun _ _ _ h => hFc _ h)
                clear hFc hk1 hz1 hP1 hD1 hw
                refine lv_aload_n hx hb dX12_behindUnit_140 rfl (lv_at hl 1 rfl) ?_
                have hFc := fr_free hD hS hA
                refine va_callv (va_runV (As := []) (rest := []) ⟨hx, hb, hml, hown, ht⟩ (m_goOn l G cy _ mo h T (va_up v3 33 ((v3 33) + 1)) nm3 (va_up (va_up f3 26 (upd (f3 26) (Int32.toNatClampNeg (v3 33)) r_u_1)) 27 (upd ((va_up f3 26 (upd (f3 26) (Int32.toNatClampNeg (v3 33)) r_u_1)) 27) (Int32.toNatClampNeg (v3 33)) (38 : Int32))) g3   hv hf hR hL (show (v3 7).toInt ≤ (v3 3).toInt from by rw [(show v3 7 = (v 7) from (hV_3 7 (by decide))), (show v3 3 = (v 3) from (hV_3 3 (by decide)))]; omega)) (cwV 0 ht (gv k_232 k_233 k_234 k_61 k_231) rfl rfl rfl (by decide +kernel) ⟨Nat.le_of_ble_eq_true rfl, Nat.le_of_ble_eq_true rfl⟩) ⟨En.blind, va_recv hK hP (ci := 12) (q0 := 0) rfl rfl, fun U hU hW => ⟨rfl, En.of hU hW hP hK hD hN⟩⟩ rfl rfl hl.1 rfl (lv_room (Nat.le_of_ble_eq_true rfl)) dX12_behindUnit_141 ⟨Nat.le_of_ble_eq_true rfl, Nat.le_of_ble_eq_true rfl⟩) hS (fun q _ h => hFc q h) hFc (fun u_91 t9 H locs ht9 hvm hw hB hz1 hk1 hS => ?_)
                obtain ⟨v91, nm91⟩ := u_91
                obtain ⟨hP1, hD1⟩ := hB
                rw [ht9] at hP1
                obtain ⟨hv, xu_91V, wu_91, xu_91_M⟩ := hw
                dsimp only at hv xu_91V wu_91 xu_91_M
                have hP : va_P G vwCl (WMs cy mo h v91 nm91 (va_up (va_up f3 26 (upd (f3 26) (Int32.toNatClampNeg (v3 33)) r_u_1)) 27 (upd ((va_up f3 26 (upd (f3 26) (Int32.toNatClampNeg (v3 33)) r_u_1)) 27) (Int32.toNatClampNeg (v3 33)) (38 : Int32))) g3) H := hP1
                have hD : va_D A (WMs cy mo h v91 nm91 (va_up (va_up f3 26 (upd (f3 26) (Int32.toNatClampNeg (v3 33)) r_u_1)) 27 (upd ((va_up f3 26 (upd (f3 26) (Int32.toNatClampNeg (v3 33)) r_u_1)) 27) (Int32.toNatClampNeg (v3 33)) (38 : Int32))) g3) := hD1.weaken (fun _ _ _ h => hFc _ h)
                have hR : RI v91 (va_up (va_up f3 26 (upd (f3 26) (Int32.toNatClampNeg (v3 33)) r_u_1)) 27 (upd ((va_up f3 26 (upd (f3 26) (Int32.toNatClampNeg (v3 33)) r_u_1)) 27) (Int32.toNatClampNeg (v3 33)) (38 : Int32))) := RI.fv hR xu_91V (by decide)
                have hL : WL v91 (va_up (va_up f3 26 (upd (f3 26) (Int32.toNatClampNeg (v3 33)) r_u_1)) 27 (upd ((va_up f3 26 (upd (f3 26) (Int32.toNatClampNeg (v3 33)) r_u_1)) 27) (Int32.toNatClampNeg (v3 33)) (38 : Int32))) := WL.fv hL xu_91V (by decide) (by decide)
                have hV_0 := FV.tr hV_0 xu_91V (by decide)
                clear hFc hk1 hz1 hP1 hD1
                have wu_91 : ((v91 7).toInt ≤ (v 3).toInt ∧ (((v91 8).toInt = 0 ∧ (v91 7).toInt = (v 3).toInt) ∨ ((v91 8).toInt ≠ 0 ∧ (v 7).toInt < (v91 7).toInt))) := by
                  have h9 : ((v91 7).toInt ≤ (v3 3).toInt ∧ (((v91 8).toInt = 0 ∧ (v91 7).toInt = (v3 3).toInt) ∨ ((v91 8).toInt ≠ 0 ∧ (v3 7).toInt < (v91 7).toInt))) := wu_91
                  rw [(show v3 3 = (v 3) from (hV_3 3 (by decide))), (show v3 7 = (v 7) from (hV_3 7 (by decide)))] at h9
                  exact h9
                have xu_91_M : 0 ≤ mz (v 3).toInt (v91 7).toInt (v91 8).toInt ∧ mz (v 3).toInt (v91 7).toInt (v91 8).toInt ≤ mz (v 3).toInt (v 7).toInt (v 8).toInt ∧ ((v 8).toInt = 0 ∨ mz (v 3).toInt (v91 7).toInt (v91 8).toInt < mz (v 3).toInt (v 7).toInt (v 8).toInt) := by
                  have h9 : 0 ≤ mz (v3 3).toInt (v91 7).toInt (v91 8).toInt ∧ mz (v3 3).toInt (v91 7).toInt (v91 8).toInt ≤ mz (v3 3).toInt (v3 7).toInt (v3 8).toInt ∧ ((v3 8).toInt = 0 ∨ mz (v3 3).toInt (v91 7).toInt (v91 8).toInt < mz (v3 3).toInt (v3 7).toInt (v3 8).toInt) := xu_91_M
                  rw [(show v3 3 = (v 3) from (hV_3 3 (by decide))), (show v3 7 = (v 7) from (hV_3 7 (by decide))), (show v3 8 = (v 8) from (hV_3 8 (by decide)))] at h9
                  exact h9
                refine lv_iconst (v := 1) hx hb dX12_behindUnit_144 (by decide) ?_
                refine W.widen (k := 0) (n := 0) (Nat.le_of_ble_eq_true rfl) (Nat.le_of_ble_eq_true rfl) ?_
                exact W.zret (v := 1) hx hb hr rfl (fun t ht9 hW => ⟨⟨1, (v91, nm91, (va_up (va_up f3 26 (upd (f3 26) (Int32.toNatClampNeg (v3 33)) r_u_1)) 27 (upd ((va_up f3 26 (upd (f3 26) (Int32.toNatClampNeg (v3 33)) r_u_1)) 27) (Int32.toNatClampNeg (v3 33)) (38 : Int32))), g3), rfl, ⟨hv, hf, hR, hL, hV_0, hF_0, ⟨(by omega), (show (v91 7).toInt ≤ (v 3).toInt from by first | omega | (subst_vars; first | rfl | omega))⟩, (show 0 ≤ mz (v 3).toInt (v91 7).toInt (v91 8).toInt ∧ mz (v 3).toInt (v91 7).toInt (v91 8).toInt ≤ mz (v 3).toInt (v 7).toInt (v 8).toInt ∧ ((v91 4).toInt ≠ 0 ∨ mz (v 3).toInt (v91 7).toInt (v91 8).toInt < mz (v 3).toInt (v 7).toInt (v 8).toInt ∨ (v91 33).toInt < (v 33).toInt) from by rw [(show v91 4 = (v 4) from ((xu_91V 4 (by decide)).trans (hV_3 4 (by decide)))), (show v91 33 = ((v3 33) + 1) from (xu_91V 33 (by decide)))]; omega), (show (v91 4).toInt = 0 → EI (1 : Int32).toInt (v 30).toInt Fz (v91 31).toInt (v91 33).toInt (v91 32).toInt ((f3 13) (Int32.toNatClampNeg (v 30))).toInt (f3 26) (f3 27) (f3 24) (f3 25) from by rw [(show v91 4 = (v 4) from ((xu_91V 4 (by decide)).trans (hV_3 4 (by decide)))), (show v91 31 = (v3 31) from (xu_91V 31 (by decide))), (show v91 33 = ((v3 33) + 1) from (xu_91V 33 (by decide))), (show v91 32 = (v3 32) from (xu_91V 32 (by decide))), (show f3 13 = (f 13) from (hF_3 13 (by decide))), (show f3 26 = (upd (f 26) (Int32.toNatClampNeg (v3 33)) r_u_1) from (congrArg (fun z : Nat → Int32 => upd z (Int32.toNatClampNeg (v3 33)) r_u_1) (hF_3 26 (by decide)))), (show f3 27 = (upd (f 27) (Int32.toNatClampNeg (v3 33)) (38 : Int32)) from (congrArg (fun z : Nat → Int32 => upd z (Int32.toNatClampNeg (v3 33)) (38 : Int32)) (hF_3 27 (by decide))))]; exact fun h9 => EI.cast (EI.push qf3_0 (by omega) (by omega) (by omega)) (by omega) (by omega) (by omega) (by omega) rfl), (show OUT Fz (600 * (v 30).toInt + 600) (f 24) (f 25) (f3 24) (f3 25) from by exact qf3_1)⟩, ⟨by rw [ht9]; exact hP, hD⟩⟩, hS.F ht9⟩) hS.2.2 dX12_behindUnit_145
          · have q_92 : r_u_1.toInt ≤ v_52.toInt := by have := (not_congr (ow_lt _ _)).mp c_54; omega
            refine lv_aload_n hx hb dX12_behindUnit_53 rfl (lv_at hl 1 rfl) ?_
            refine lv_dup hx hb dX12_behindUnit_54 rfl ?_
            refine mg_33 hx hb ht hown hK hP dX12_behindUnit_55 ?_
            refine lv_iconst (v := 1) hx hb dX12_behindUnit_58 (by decide) ?_
            refine lv_isub hx hb dX12_behindUnit_59 ?_
            refine lv_topi (fun v_93 ev_93 => ?_)
            have q_94 : v_93.toInt = (v3 33).toInt - (1 : Int32).toInt := ow_sub ev_93 (by omega) (by omega)
            refine mp_33 hx hb ht hown hK hP hD hS dX12_behindUnit_60 (fun H locs hP hD hS => ?_)
            have hv := MIv.up 33 hv (show 0 ≤ v_93.toInt ∧ v_93.toInt ≤ 120 from by omega)
            have hL : WL (va_up v3 33 v_93) f3 := WL.upv 33 hL (by decide)
            have hR : RI (va_up v3 33 v_93) f3 := RI.upv 33 hR (by decide)
            have hV_0 := FV.up hV_0 33 v_93 (by decide)
            have hW_3 := FV.up hW_3 33 v_93 (by decide)
            refine lv_aload_n hx hb dX12_behindUnit_63 rfl (lv_at hl 1 rfl) ?_
            refine mg_26 hx hb ht hown hK hP dX12_behindUnit_64 ?_
            refine lv_aload_n hx hb dX12_behindUnit_67 rfl (lv_at hl 1 rfl) ?_
            refine mg_33 hx hb ht hown hK hP dX12_behindUnit_68 ?_
            refine ow_top v_93 rfl ?_
            have q_95 : vp_in v_93 120 := vp_in_iff.mpr ⟨by omega, by omega⟩
            refine ml_26 hx hb hK hP q_95 dX12_behindUnit_71 ?_
            refine lv_topi (fun v_96 ev_96 => ?_)
            have q_97 : v_96.toInt = ((f 26) (Int32.toNatClampNeg v_93)).toInt := (congrArg Int32.toInt ev_96).trans (congrArg (fun z : Nat → Int32 => (z (Int32.toNatClampNeg v_93)).toInt) (show f3 26 = (f 26) from (hF_3 26 (by decide))))
            refine lv_iconst (v := 3) hx hb dX12_behindUnit_72 (by decide) ?_
            refine lv_icmp_ne (tgt := 86) hx hb dX12_behindUnit_73 (by decide) (fun c_98 => ?_) (fun c_98 => ?_)
            · have q_99 : ¬ v_96.toInt = (3 : Int32).toInt := by have := (not_congr (ow_eq _ _)).mp c_98; omega
              refine lv_aload_n hx hb dX12_behindUnit_86 rfl (lv_at hl 1 rfl) ?_
              refine lv_aload_n hx hb dX12_behindUnit_87 rfl (lv_at hl 1 rfl) ?_
              refine mg_27 hx hb ht hown hK hP dX12_behindUnit_88 ?_
              refine lv_aload_n hx hb dX12_behindUnit_91 rfl (lv_at hl 1 rfl) ?_
              refine mg_33 hx hb ht hown hK hP dX12_behindUnit_92 ?_
              refine ow_top v_93 rfl ?_
              have q_100 : vp_in v_93 120 := vp_in_iff.mpr ⟨by omega, by omega⟩
              refine ml_27 hx hb hK hP q_100 dX12_behindUnit_95 ?_
              refine lv_topi (fun v_101 ev_101 => ?_)
              have q_102 : v_101.toInt = ((f 27) (Int32.toNatClampNeg v_93)).toInt := (congrArg Int32.toInt ev_101).trans (congrArg (fun z : Nat → Int32 => (z (Int32.toNatClampNeg v_93)).toInt) (show f3 27 = (f 27) from (hF_3 27 (by decide))))
              refine lv_iconst (v := 0) hx hb dX12_behindUnit_96 (by decide) ?_
              have hFc := fr_free hD hS hA
              refine va_callv (va_runV (As := [.int v_101, .int 0]) (rest := []) ⟨hx, hb, hml, hown, ht⟩ (m_emit l G cy _ mo h T (va_up v3 33 v_93) nm3 f3 g3 v_101 (0) ((v3 31)) hv hf hR hL rfl (show 0 ≤ ((v3 31)).toInt ∧ ((v3 31)).toInt ≤ 1199 from by omega)) (cwV 2 ht (gv k_256 k_257 k_258 k_61 k_255) rfl rfl rfl (by decide +kernel) ⟨Nat.le_of_ble_eq_true rfl, Nat.le_of_ble_eq_true rfl⟩) ⟨En.blind, va_recv hK hP (ci := 12) (q0 := 0) rfl rfl, fun U hU hW => ⟨rfl, En.of hU hW hP hK hD hN⟩⟩ rfl rfl hl.1 rfl (lv_room (Nat.le_of_ble_eq_true rfl)) dX12_behindUnit_97 ⟨Nat.le_of_ble_eq_true rfl, Nat.le_of_ble_eq_true rfl⟩) hS (fun q _ h => hFc q h) hFc (fun u_103 t9 H locs ht9 hvm hw hB hz1 hk1 hS => ?_)
              obtain ⟨hP1, hD1⟩ := hB
              rw [ht9] at hP1
              have wu_103 := hw
              have q_105 : ((v3 31) + 1).toInt = (v3 31).toInt + 1 := ow_add rfl (by omega) (by omega)
              have hv := MIv.up 31 hv (show 0 ≤ ((v3 31) + 1).toInt ∧ ((v3 31) + 1).toInt ≤ 1200 from by omega)
              have hR : RI (va_up (va_up v3 33 v_93) 31 ((v3 31) + 1)) f3 := RI.upv 31 hR (by decide)
              have hL : WL (va_up (va_up v3 33 v_93) 31 ((v3 31) + 1)) f3 := WL.upv 31 hL (by decide)
              have hV_0 := FV.up hV_0 31 ((v3 31) + 1) (by decide)
              have hW_3 := FV.up hW_3 31 ((v3 31) + 1) (by decide)
              have hf := MIf.up 24 (i := (Int32.toNatClampNeg (v3 31))) hf (ow_any v_101)
              have hF_0 := FF.up hF_0 24 (upd (f3 24) (Int32.toNatClampNeg (v3 31)) v_101) (by decide)
              have hY_3 := FF.up hY_3 24 (upd (f3 24) (Int32.toNatClampNeg (v3 31)) v_101) (by decide)
              have hR : RI (va_up (va_up v3 33 v_93) 31 ((v3 31) + 1)) (va_up f3 24 (upd (f3 24) (Int32.toNatClampNeg (v3 31)) v_101)) := RIb.w24 hR (show ((Int32.toNatClampNeg (v3 31) : Nat) : Int) < 600 * ((Int32.toNatClampNeg (v3 29) : Nat) : Int) ∨ 600 * ((Int32.toNatClampNeg (v3 29) : Nat) : Int) + 600 ≤ ((Int32.toNatClampNeg (v3 31) : Nat) : Int) from by rw [show v3 29 = (v 29) from (hV_3 29 (by decide))]; rw [ow_tn, ow_tn]; omega)
              have hL : WL (va_up (va_up v3 33 v_93) 31 ((v3 31) + 1)) (va_up f3 24 (upd (f3 24) (Int32.toNatClampNeg (v3 31)) v_101)) := WL.upf 24 hL (by decide)
              have hf := MIf.up 25 (i := (Int32.toNatClampNeg (v3 31))) hf (ow_any (0 : Int32))
              have hF_0 := FF.up hF_0 25 (upd ((va_up f3 24 (upd (f3 24) (Int32.toNatClampNeg (v3 31)) v_101)) 25) (Int32.toNatClampNeg (v3 31)) (0 : Int32)) (by decide)
              have hY_3 := FF.up hY_3 25 (upd ((va_up f3 24 (upd (f3 24) (Int32.toNatClampNeg (v3 31)) v_101)) 25) (Int32.toNatClampNeg (v3 31)) (0 : Int32)) (by decide)
              have hR : RI (va_up (va_up v3 33 v_93) 31 ((v3 31) + 1)) (va_up (va_up f3 24 (upd (f3 24) (Int32.toNatClampNeg (v3 31)) v_101)) 25 (upd ((va_up f3 24 (upd (f3 24) (Int32.toNatClampNeg (v3 31)) v_101)) 25) (Int32.toNatClampNeg (v3 31)) (0 : Int32))) := RIb.w25 hR (show ((Int32.toNatClampNeg (v3 31) : Nat) : Int) < 600 * ((Int32.toNatClampNeg (v3 29) : Nat) : Int) ∨ 600 * ((Int32.toNatClampNeg (v3 29) : Nat) : Int) + 600 ≤ ((Int32.toNatClampNeg (v3 31) : Nat) : Int) from by rw [show v3 29 = (v 29) from (hV_3 29 (by decide))]; rw [ow_tn, ow_tn]; omega)
              have hL : WL (va_up (va_up v3 33 v_93) 31 ((v3 31) + 1)) (va_up (va_up f3 24 (upd (f3 24) (Int32.toNatClampNeg (v3 31)) v_101)) 25 (upd ((va_up f3 24 (upd (f3 24) (Int32.toNatClampNeg (v3 31)) v_101)) 25) (Int32.toNatClampNeg (v3 31)) (0 : Int32))) := WL.upf 25 hL (by decide)
              have hP : va_P G vwCl (WMs cy mo h (va_up (va_up v3 33 v_93) 31 ((v3 31) + 1)) nm3 (va_up (va_up f3 24 (upd (f3 24) (Int32.toNatClampNeg (v3 31)) v_101)) 25 (upd ((va_up f3 24 (upd (f3 24) (Int32.toNatClampNeg (v3 31)) v_101)) 25) (Int32.toNatClampNeg (v3 31)) (0 : Int32))) g3) H := hP1
              have hD : va_D A (WMs cy mo h (va_up (va_up v3 33 v_93) 31 ((v3 31) + 1)) nm3 (va_up (va_up f3 24 (upd (f3 24) (Int32.toNatClampNeg (v3 31)) v_101)) 25 (upd ((va_up f3 24 (upd (f3 24) (Int32.toNatClampNeg (v3 31)) v_101)) 25) (Int32.toNatClampNeg (v3 31)) (0 : Int32))) g3) := hD1.weaken (fun _ _ _ h => hFc _ h)
              clear hFc hk1 hz1 hP1 hD1 hw
              refine lv_goto (tgt := 23) hx hb dX12_behindUnit_100 (by decide) ?_
              refine W.widen (k := 0) (n := 0) (Nat.le_of_ble_eq_true rfl) (Nat.le_of_ble_eq_true rfl) ?_
              have x1 : (f 26 (Int32.toNatClampNeg v_5)).toInt = (f 26 ((v3 33).toInt.toNat - 1)).toInt := by rw [show (Int32.toNatClampNeg v_5) = (v3 33).toInt.toNat - 1 from by rw [ow_tn]; omega]
              have x2 : (f 26 (Int32.toNatClampNeg v_93)).toInt = (f 26 ((v3 33).toInt.toNat - 1)).toInt := by rw [show (Int32.toNatClampNeg v_93) = (v3 33).toInt.toNat - 1 from by rw [ow_tn]; omega]
              have x3 : (f 27 (Int32.toNatClampNeg v_93)).toInt = (f 27 ((v3 33).toInt.toNat - 1)).toInt := by rw [show (Int32.toNatClampNeg v_93) = (v3 33).toInt.toNat - 1 from by rw [ow_tn]; omega]
              have hpop := EI.pop (s := v_101) (n := (0 : Int32)) (w' := (v3 32).toInt) qf3_0 (by omega) (by omega) (by omega) (by omega) ((ow_eq _ _).mpr (by omega)) (by omega)
              have hpop1 := hpop.1
              exact ih_3 (va_up (va_up v3 33 v_93) 31 ((v3 31) + 1)) nm3 (va_up (va_up f3 24 (upd (f3 24) (Int32.toNatClampNeg (v3 31)) v_101)) 25 (upd ((va_up f3 24 (upd (f3 24) (Int32.toNatClampNeg (v3 31)) v_101)) 25) (Int32.toNatClampNeg (v3 31)) (0 : Int32))) g3 _ _ _ hv hf hR hL hW_3 hY_3 (show EI 0 (v 30).toInt Fz ((v3 31) + 1).toInt v_93.toInt (v3 32).toInt ((f 13) (Int32.toNatClampNeg (v 30))).toInt (f 26) (f 27) (upd (f3 24) (Int32.toNatClampNeg (v3 31)) v_101) (upd (f3 25) (Int32.toNatClampNeg (v3 31)) (0 : Int32)) from by exact EI.cast hpop.2.2 (by omega) (by omega) (by omega) (by omega) rfl) (show OUT Fz (600 * (v 30).toInt + 600) (f 24) (f 25) (upd (f3 24) (Int32.toNatClampNeg (v3 31)) v_101) (upd (f3 25) (Int32.toNatClampNeg (v3 31)) (0 : Int32)) from by exact OUT.w qf3_1 _ _ ⟨by rw [ow_tn]; omega, by rw [ow_tn]; omega⟩) (show 1 ≤ v_93.toInt ∧ v_93.toInt ≤ (v 33).toInt from by omega) (show (v_93.toInt).toNat < N_3 from by omega) hP hD hS (lv_sub hl [0, 1] rfl)
            · have q_106 : v_96.toInt = (3 : Int32).toInt := (ow_eq _ _).mp c_98
              have x9 : (f 26 (Int32.toNatClampNeg v_93)).toInt = (f 26 ((v3 33).toInt.toNat - 1)).toInt := by rw [show (Int32.toNatClampNeg v_93) = (v3 33).toInt.toNat - 1 from by rw [ow_tn]; omega]
              have hw1 := EI.top qf3_0 (by omega) (by omega)
              refine lv_aload_n hx hb dX12_behindUnit_76 rfl (lv_at hl 1 rfl) ?_
              refine lv_dup hx hb dX12_behindUnit_77 rfl ?_
              refine mg_32 hx hb ht hown hK hP dX12_behindUnit_78 ?_
              refine ow_top (v3 32) rfl ?_
              have q_107 : 0 ≤ (v3 32).toInt ∧ (v3 32).toInt ≤ 7 := hv 32
              refine lv_iconst (v := 1) hx hb dX12_behindUnit_81 (by decide) ?_
              refine lv_isub hx hb dX12_behindUnit_82 ?_
              refine lv_topi (fun v_108 ev_108 => ?_)
              have q_109 : v_108.toInt = (v3 32).toInt - (1 : Int32).toInt := ow_sub ev_108 (by omega) (by omega)
              refine mp_32 hx hb ht hown hK hP hD hS dX12_behindUnit_83 (fun H locs hP hD hS => ?_)
              have hv := MIv.up 32 hv (show 0 ≤ v_108.toInt ∧ v_108.toInt ≤ 7 from by omega)
              have hL : WL (va_up (va_up v3 33 v_93) 32 v_108) f3 := WL.upv 32 hL (by decide)
              have hR : RI (va_up (va_up v3 33 v_93) 32 v_108) f3 := RI.upv 32 hR (by decide)
              have hV_0 := FV.up hV_0 32 v_108 (by decide)
              have hW_3 := FV.up hW_3 32 v_108 (by decide)
              refine lv_aload_n hx hb dX12_behindUnit_86 rfl (lv_at hl 1 rfl) ?_
              refine lv_aload_n hx hb dX12_behindUnit_87 rfl (lv_at hl 1 rfl) ?_
              refine mg_27 hx hb ht hown hK hP dX12_behindUnit_88 ?_
              refine lv_aload_n hx hb dX12_behindUnit_91 rfl (lv_at hl 1 rfl) ?_
              refine mg_33 hx hb ht hown hK hP dX12_behindUnit_92 ?_
              refine ow_top v_93 rfl ?_
              have q_110 : vp_in v_93 120 := vp_in_iff.mpr ⟨by omega, by omega⟩
              refine ml_27 hx hb hK hP q_110 dX12_behindUnit_95 ?_
              refine lv_topi (fun v_111 ev_111 => ?_)
              have q_112 : v_111.toInt = ((f 27) (Int32.toNatClampNeg v_93)).toInt := (congrArg Int32.toInt ev_111).trans (congrArg (fun z : Nat → Int32 => (z (Int32.toNatClampNeg v_93)).toInt) (show f3 27 = (f 27) from (hF_3 27 (by decide))))
              refine lv_iconst (v := 0) hx hb dX12_behindUnit_96 (by decide) ?_
              have hFc := fr_free hD hS hA
              refine va_callv (va_runV (As := [.int v_111, .int 0]) (rest := []) ⟨hx, hb, hml, hown, ht⟩ (m_emit l G cy _ mo h T (va_up (va_up v3 33 v_93) 32 v_108) nm3 f3 g3 v_111 (0) ((v3 31)) hv hf hR hL rfl (show 0 ≤ ((v3 31)).toInt ∧ ((v3 31)).toInt ≤ 1199 from by omega)) (cwV 2 ht (gv k_256 k_257 k_258 k_61 k_255) rfl rfl rfl (by decide +kernel) ⟨Nat.le_of_ble_eq_true rfl, Nat.le_of_ble_eq_true rfl⟩) ⟨En.blind, va_recv hK hP (ci := 12) (q0 := 0) rfl rfl, fun U hU hW => ⟨rfl, En.of hU hW hP hK hD hN⟩⟩ rfl rfl hl.1 rfl (lv_room (Nat.le_of_ble_eq_true rfl)) dX12_behindUnit_97 ⟨Nat.le_of_ble_eq_true rfl, Nat.le_of_ble_eq_true rfl⟩) hS (fun q _ h => hFc q h) hFc (fun u_113 t9 H locs ht9 hvm hw hB hz1 hk1 hS => ?_)
              obtain ⟨hP1, hD1⟩ := hB
              rw [ht9] at hP1
              have wu_113 := hw
              have q_115 : ((v3 31) + 1).toInt = (v3 31).toInt + 1 := ow_add rfl (by omega) (by omega)
              have hv := MIv.up 31 hv (show 0 ≤ ((v3 31) + 1).toInt ∧ ((v3 31) + 1).toInt ≤ 1200 from by omega)
              have hR : RI (va_up (va_up (va_up v3 33 v_93) 32 v_108) 31 ((v3 31) + 1)) f3 := RI.upv 31 hR (by decide)
              have hL : WL (va_up (va_up (va_up v3 33 v_93) 32 v_108) 31 ((v3 31) + 1)) f3 := WL.upv 31 hL (by decide)
              have hV_0 := FV.up hV_0 31 ((v3 31) + 1) (by decide)
              have hW_3 := FV.up hW_3 31 ((v3 31) + 1) (by decide)
              have hf := MIf.up 24 (i := (Int32.toNatClampNeg (v3 31))) hf (ow_any v_111)
              have hF_0 := FF.up hF_0 24 (upd (f3 24) (Int32.toNatClampNeg (v3 31)) v_111) (by decide)
              have hY_3 := FF.up hY_3 24 (upd (f3 24) (Int32.toNatClampNeg (v3 31)) v_111) (by decide)
              have hR : RI (va_up (va_up (va_up v3 33 v_93) 32 v_108) 31 ((v3 31) + 1)) (va_up f3 24 (upd (f3 24) (Int32.toNatClampNeg (v3 31)) v_111)) := RIb.w24 hR (show ((Int32.toNatClampNeg (v3 31) : Nat) : Int) < 600 * ((Int32.toNatClampNeg (v3 29) : Nat) : Int) ∨ 600 * ((Int32.toNatClampNeg (v3 29) : Nat) : Int) + 600 ≤ ((Int32.toNatClampNeg (v3 31) : Nat) : Int) from by rw [show v3 29 = (v 29) from (hV_3 29 (by decide))]; rw [ow_tn, ow_tn]; omega)
              have hL : WL (va_up (va_up (va_up v3 33 v_93) 32 v_108) 31 ((v3 31) + 1)) (va_up f3 24 (upd (f3 24) (Int32.toNatClampNeg (v3 31)) v_111)) := WL.upf 24 hL (by decide)
              have hf := MIf.up 25 (i := (Int32.toNatClampNeg (v3 31))) hf (ow_any (0 : Int32))
              have hF_0 := FF.up hF_0 25 (upd ((va_up f3 24 (upd (f3 24) (Int32.toNatClampNeg (v3 31)) v_111)) 25) (Int32.toNatClampNeg (v3 31)) (0 : Int32)) (by decide)
              have hY_3 := FF.up hY_3 25 (upd ((va_up f3 24 (upd (f3 24) (Int32.toNatClampNeg (v3 31)) v_111)) 25) (Int32.toNatClampNeg (v3 31)) (0 : Int32)) (by decide)
              have hR : RI (va_up (va_up (va_up v3 33 v_93) 32 v_108) 31 ((v3 31) + 1)) (va_up (va_up f3 24 (upd (f3 24) (Int32.toNatClampNeg (v3 31)) v_111)) 25 (upd ((va_up f3 24 (upd (f3 24) (Int32.toNatClampNeg (v3 31)) v_111)) 25) (Int32.toNatClampNeg (v3 31)) (0 : Int32))) := RIb.w25 hR (show ((Int32.toNatClampNeg (v3 31) : Nat) : Int) < 600 * ((Int32.toNatClampNeg (v3 29) : Nat) : Int) ∨ 600 * ((Int32.toNatClampNeg (v3 29) : Nat) : Int) + 600 ≤ ((Int32.toNatClampNeg (v3 31) : Nat) : Int) from by rw [show v3 29 = (v 29) from (hV_3 29 (by decide))]; rw [ow_tn, ow_tn]; omega)
              have hL : WL (va_up (va_up (va_up v3 33 v_93) 32 v_108) 31 ((v3 31) + 1)) (va_up (va_up f3 24 (upd (f3 24) (Int32.toNatClampNeg (v3 31)) v_111)) 25 (upd ((va_up f3 24 (upd (f3 24) (Int32.toNatClampNeg (v3 31)) v_111)) 25) (Int32.toNatClampNeg (v3 31)) (0 : Int32))) := WL.upf 25 hL (by decide)
              have hP : va_P G vwCl (WMs cy mo h (va_up (va_up (va_up v3 33 v_93) 32 v_108) 31 ((v3 31) + 1)) nm3 (va_up (va_up f3 24 (upd (f3 24) (Int32.toNatClampNeg (v3 31)) v_111)) 25 (upd ((va_up f3 24 (upd (f3 24) (Int32.toNatClampNeg (v3 31)) v_111)) 25) (Int32.toNatClampNeg (v3 31)) (0 : Int32))) g3) H := hP1
              have hD : va_D A (WMs cy mo h (va_up (va_up (va_up v3 33 v_93) 32 v_108) 31 ((v3 31) + 1)) nm3 (va_up (va_up f3 24 (upd (f3 24) (Int32.toNatClampNeg (v3 31)) v_111)) 25 (upd ((va_up f3 24 (upd (f3 24) (Int32.toNatClampNeg (v3 31)) v_111)) 25) (Int32.toNatClampNeg (v3 31)) (0 : Int32))) g3) := hD1.weaken (fun _ _ _ h => hFc _ h)
              clear hFc hk1 hz1 hP1 hD1 hw
              refine lv_goto (tgt := 23) hx hb dX12_behindUnit_100 (by decide) ?_
              refine W.widen (k := 0) (n := 0) (Nat.le_of_ble_eq_true rfl) (Nat.le_of_ble_eq_true rfl) ?_
              have x1 : (f 26 (Int32.toNatClampNeg v_5)).toInt = (f 26 ((v3 33).toInt.toNat - 1)).toInt := by rw [show (Int32.toNatClampNeg v_5) = (v3 33).toInt.toNat - 1 from by rw [ow_tn]; omega]
              have x2 : (f 26 (Int32.toNatClampNeg v_93)).toInt = (f 26 ((v3 33).toInt.toNat - 1)).toInt := by rw [show (Int32.toNatClampNeg v_93) = (v3 33).toInt.toNat - 1 from by rw [ow_tn]; omega]
              have x3 : (f 27 (Int32.toNatClampNeg v_93)).toInt = (f 27 ((v3 33).toInt.toNat - 1)).toInt := by rw [show (Int32.toNatClampNeg v_93) = (v3 33).toInt.toNat - 1 from by rw [ow_tn]; omega]
              have hpop := EI.pop (s := v_111) (n := (0 : Int32)) (w' := v_108.toInt) qf3_0 (by omega) (by omega) (by omega) (by omega) ((ow_eq _ _).mpr (by omega)) (by omega)
              have hpop1 := hpop.1
              exact ih_3 (va_up (va_up (va_up v3 33 v_93) 32 v_108) 31 ((v3 31) + 1)) nm3 (va_up (va_up f3 24 (upd (f3 24) (Int32.toNatClampNeg (v3 31)) v_111)) 25 (upd ((va_up f3 24 (upd (f3 24) (Int32.toNatClampNeg (v3 31)) v_111)) 25) (Int32.toNatClampNeg (v3 31)) (0 : Int32))) g3 _ _ _ hv hf hR hL hW_3 hY_3 (show EI 0 (v 30).toInt Fz ((v3 31) + 1).toInt v_93.toInt v_108.toInt ((f 13) (Int32.toNatClampNeg (v 30))).toInt (f 26) (f 27) (upd (f3 24) (Int32.toNatClampNeg (v3 31)) v_111) (upd (f3 25) (Int32.toNatClampNeg (v3 31)) (0 : Int32)) from by exact EI.cast hpop.2.2 (by omega) (by omega) (by omega) (by omega) rfl) (show OUT Fz (600 * (v 30).toInt + 600) (f 24) (f 25) (upd (f3 24) (Int32.toNatClampNeg (v3 31)) v_111) (upd (f3 25) (Int32.toNatClampNeg (v3 31)) (0 : Int32)) from by exact OUT.w qf3_1 _ _ ⟨by rw [ow_tn]; omega, by rw [ow_tn]; omega⟩) (show 1 ≤ v_93.toInt ∧ v_93.toInt ≤ (v 33).toInt from by omega) (show (v_93.toInt).toNat < N_3 from by omega) hP hD hS (lv_sub hl [0, 1] rfl)
    exact lp_3 _ v nm f g _ _ _ hv hf hR hL FV.rf FF.rf hE OUT.rf (show 1 ≤ (v 33).toInt ∧ (v 33).toInt ≤ (v 33).toInt from by omega) (Nat.lt_succ_self _) hP hD hS (lv_sub hl [0, 1] rfl)
  refine lv_iload_n hx hb dX12_behindUnit_5 rfl (lv_at hl 0 rfl) ?_
  refine lv_iconst (v := 4) hx hb dX12_behindUnit_6 (by decide) ?_
  refine lv_icmp_ne (tgt := 23) hx hb dX12_behindUnit_7 (by decide) (fun c_116 => ?_) (fun c_116 => ?_)
  · have q_117 : ¬ r_u_1.toInt = (4 : Int32).toInt := by have := (not_congr (ow_eq _ _)).mp c_116; omega
    refine W.widen (k := 0) (n := 0) (Nat.le_of_ble_eq_true rfl) (Nat.le_of_ble_eq_true rfl) ?_
    exact jn_2 _ _ _ hP hD hS (lv_sub hl [0, 1] rfl)
  · have q_118 : r_u_1.toInt = (4 : Int32).toInt := (ow_eq _ _).mp c_116
    refine lv_aload_n hx hb dX12_behindUnit_10 rfl (lv_at hl 1 rfl) ?_
    have hFc := fr_new hS hA
    refine va_calli (va_runV (As := []) (rest := []) ⟨hx, hb, hml, hown, ht⟩ (m_isCompared l G cy _ mo h T v nm f g   hv hf hR hL (show 1 ≤ (v 33).toInt from by omega) (show (f 26 0).toInt = 7 from by omega)) (cwV 0 ht (gv k_272 k_273 k_274 k_61 k_271) rfl rfl rfl (by decide +kernel) ⟨Nat.le_of_ble_eq_true rfl, Nat.le_of_ble_eq_true rfl⟩) ⟨En.blind, va_recv hK hP (ci := 12) (q0 := 0) rfl rfl, fun U hU hW => ⟨rfl, En.of hU hW hP hK hD hN⟩⟩ rfl rfl hl.1 rfl (lv_room (Nat.le_of_ble_eq_true rfl)) dX12_behindUnit_11 ⟨Nat.le_of_ble_eq_true rfl, Nat.le_of_ble_eq_true rfl⟩) hS (fun q _ h => hFc q h) hFc (fun r_u_119 u_119 t9 H locs ht9 hvm hw hB hz1 hk1 hS => ?_)
    have hP := fr_keep hP hk1
    have wu_119 := hw
    clear hFc hk1 hz1 hB hw
    refine lv_if_eq (tgt := 23) hx hb dX12_behindUnit_14 (by decide) (fun c_120 => ?_) (fun c_120 => ?_)
    · have q_121 : r_u_119.toInt = (0 : Int32).toInt := (ow_eq _ _).mp c_120
      refine W.widen (k := 0) (n := 0) (Nat.le_of_ble_eq_true rfl) (Nat.le_of_ble_eq_true rfl) ?_
      exact jn_2 _ _ _ hP hD hS (lv_sub hl [0, 1] rfl)
    · have q_122 : ¬ r_u_119.toInt = (0 : Int32).toInt := by have := (not_congr (ow_eq _ _)).mp c_120; omega
      refine lv_aload_n hx hb dX12_behindUnit_17 rfl (lv_at hl 1 rfl) ?_
      have hFc := fr_free hD hS hA
      refine va_callv (va_runV (As := []) (rest := []) ⟨hx, hb, hml, hown, ht⟩ (m_misplaced l G cy _ mo h T v nm f g   hv hf hR hL) (cwV 0 ht (gv k_228 k_229 k_230 k_61 k_227) rfl rfl rfl (by decide +kernel) ⟨Nat.le_of_ble_eq_true rfl, Nat.le_of_ble_eq_true rfl⟩) ⟨En.blind, va_recv hK hP (ci := 12) (q0 := 0) rfl rfl, fun U hU hW => ⟨rfl, En.of hU hW hP hK hD hN⟩⟩ rfl rfl hl.1 rfl (lv_room (Nat.le_of_ble_eq_true rfl)) dX12_behindUnit_18 ⟨Nat.le_of_ble_eq_true rfl, Nat.le_of_ble_eq_true rfl⟩) hS (fun q _ h => hFc q h) hFc (fun u_123 t9 H locs ht9 hvm hw hB hz1 hk1 hS => ?_)
      obtain ⟨v123, nm123⟩ := u_123
      obtain ⟨hP1, hD1⟩ := hB
      rw [ht9] at hP1
      obtain ⟨hv, xu_123V, wu_123⟩ := hw
      dsimp only at hv xu_123V wu_123
      have hP : va_P G vwCl (WMs cy mo h v123 nm123 f g) H := hP1
      have hD : va_D A (WMs cy mo h v123 nm123 f g) := hD1.weaken (fun _ _ _ h => hFc _ h)
      have hR : RI v123 f := RI.fv hR xu_123V (by decide)
      have hL : WL v123 f := WL.fv hL xu_123V (by decide) (by decide)
      have hV_0 := FV.tr hV_0 xu_123V (by decide)
      clear hFc hk1 hz1 hP1 hD1
      have wu_123 : (1 ≤ (v123 4).toInt) := wu_123
      refine lv_iconst (v := 1) hx hb dX12_behindUnit_21 (by decide) ?_
      refine W.widen (k := 0) (n := 0) (Nat.le_of_ble_eq_true rfl) (Nat.le_of_ble_eq_true rfl) ?_
      exact W.zret (v := 1) hx hb hr rfl (fun t ht9 hW => ⟨⟨1, (v123, nm123, f, g), rfl, ⟨hv, hf, hR, hL, hV_0, hF_0, ⟨(by omega), (show (v123 7).toInt ≤ (v 3).toInt from by rw [(show v123 7 = (v 7) from (xu_123V 7 (by decide)))]; first | omega | (subst_vars; first | rfl | omega))⟩, (show 0 ≤ mz (v 3).toInt (v123 7).toInt (v123 8).toInt ∧ mz (v 3).toInt (v123 7).toInt (v123 8).toInt ≤ mz (v 3).toInt (v 7).toInt (v 8).toInt ∧ ((v123 4).toInt ≠ 0 ∨ mz (v 3).toInt (v123 7).toInt (v123 8).toInt < mz (v 3).toInt (v 7).toInt (v 8).toInt ∨ (v123 33).toInt < (v 33).toInt) from by rw [(show v123 7 = (v 7) from (xu_123V 7 (by decide))), (show v123 8 = (v 8) from (xu_123V 8 (by decide))), (show v123 33 = (v 33) from (xu_123V 33 (by decide)))]; omega), (show (v123 4).toInt = 0 → EI (1 : Int32).toInt (v 30).toInt Fz (v123 31).toInt (v123 33).toInt (v123 32).toInt ((f 13) (Int32.toNatClampNeg (v 30))).toInt (f 26) (f 27) (f 24) (f 25) from by rw [(show v123 31 = (v 31) from (xu_123V 31 (by decide))), (show v123 33 = (v 33) from (xu_123V 33 (by decide))), (show v123 32 = (v 32) from (xu_123V 32 (by decide)))]; exact fun h9 => absurd h9 (by omega)), (show OUT Fz (600 * (v 30).toInt + 600) (f 24) (f 25) (f 24) (f 25) from by exact OUT.rf)⟩, ⟨by rw [ht9]; exact hP, hD⟩⟩, hS.F ht9⟩) hS.2.2 dX12_behindUnit_22
set_option maxHeartbeats 4000000 in
set_option maxRecDepth 100000 in
theorem m_e (l : Launch) (G : va_G) (cy : Nat → ClassId) (sz : Nat) (mo : Nat) (h : Nat → Nat) (T : Int) (v : Nat → Int32) (nm : Int64) (f : Nat → Nat → Int32) (g : Nat → Nat → Int64)   (hv : MIv T v) (hf : MIf f) (hR : RI v f) (hL : WL v f) (he : (v 7).toInt ≤ (v 3).toInt) (hrb : (v 30).toInt + (v 29).toInt = 1) (hF9 : 600 * (v 30).toInt ≤ (v 31).toInt ∧ ((v 4).toInt ≠ 0 ∨ (v 31).toInt ≤ 600 * (v 30).toInt + 9 * (f 13 (Int32.toNatClampNeg (v 30))).toInt)) : Met l yX12_e (.code yX12_e cX12_e 2 none :: TBg) ({ frames := 5, cells := 0, slots := 0, locals := 320 }) (va_Pc [.ref mo] (En G cy (WMs cy mo h v nm f g) sz)) (va_Qv (fun (u : (Nat → Int32) × Int64 × (Nat → Nat → Int32) × (Nat → Nat → Int64)) => MIv T u.1 ∧ MIf u.2.2.1 ∧ RI u.1 u.2.2.1 ∧ WL u.1 u.2.2.1 ∧ FV [4, 5, 6, 7, 8, 9, 31, 32, 33] v u.1 ∧ FF [13, 24, 25, 26, 27] f u.2.2.1 ∧ (((u.1 7).toInt ≤ (v 3).toInt ∧ ((u.1 4).toInt ≠ 0 ∨ (v 4).toInt = 0))) ∧ (0 ≤ mz (v 3).toInt (u.1 7).toInt (u.1 8).toInt ∧ mz (v 3).toInt (u.1 7).toInt (u.1 8).toInt ≤ mz (v 3).toInt (v 7).toInt (v 8).toInt) ∧ ((u.1 4).toInt = 0 → wfr (u.2.2.1 24) (u.2.2.1 25) (v 31).toInt.toNat (u.1 31).toInt.toNat ∧ (v 31).toInt ≤ (u.1 31).toInt ∧ (u.1 31).toInt ≤ 600 * (v 30).toInt + 9 * (u.2.2.1 13 (Int32.toNatClampNeg (v 30))).toInt) ∧ (OUT (v 31).toInt (600 * (v 30).toInt + 600) (f 24) (f 25) (u.2.2.1 24) (u.2.2.1 25))) (fun u t => Ex G (va_A (WMs cy mo h v nm f g) sz) (WMs cy mo h u.1 u.2.1 u.2.2.1 u.2.2.2) t) (va_A (WMs cy mo h v nm f g) sz)) 0 0 (va_A (WMs cy mo h v nm f g) sz) := by
  refine Met.ofW (cc := cX12_e) (maxL := 2) (ret := none) (by decide) rfl ?_
  intro p e s m args below meth c s₁ B hml hv9
  obtain ⟨rfl, hsz, hP, hK, hD0, hN⟩ := hv9
  have hx := B.exec
  have hb := B.bytes
  have hr := B.returns
  have hts := atoms_spec (ws := .code yX12_e cX12_e 2 none :: TBg) B.pre
  have ht : ∀ w ∈ TBg, w.before _ s = true := fun w h => hts w (List.mem_cons_of_mem _ h)
  have hown : s.vm.findClass RX12 = some m.cls := findClass_of_methodNamed B.named
  have hlocks := B.notSynchronized
  subst hsz
  have hD := hD0.self (sz := s.heap.size)
  generalize hAe : va_A (WMs cy mo h v nm f g) s.heap.size = A at hD ⊢
  have hA : ∀ q : Nat, s.heap.size ≤ q → A q := fun q h => by rw [← hAe]; exact Or.inr h
  have hS : va_S A s.heap s.heap [] := va_S.rf
  have hl := lv_entry ([.ref mo]) (n := 2) (Nat.le_of_ble_eq_true rfl)
  rw [lg_entry_eq]
  generalize (lg_sl ([.ref mo]) ++ List.replicate (2 - (lg_sl ([.ref mo])).length) Slot.unset).toArray = ls at hl ⊢
  have hl : lv_has ls 2 [(0, .ref mo)] := hl
  have z0 : (0 : Int32).toInt = 0 := by decide
  have z1 : (1 : Int32).toInt = 1 := by decide
  have z2 : (7 : Int32).toInt = 7 := by decide
  have hf_0 := hf
  have hV_0 : FV [4, 5, 6, 7, 8, 9, 31, 32, 33] v v := FV.rf
  have hF_0 : FF [13, 24, 25, 26, 27] f f := FF.rf
  have hmz0 : 0 ≤ mz (v 3).toInt (v 7).toInt (v 8).toInt := mz_nn he
  have rg4 : 0 ≤ (v 4).toInt ∧ (v 4).toInt ≤ 5 := hv 4
  have rg29 : 0 ≤ (v 29).toInt ∧ (v 29).toInt ≤ 1 := hv 29
  have rg30 : 0 ≤ (v 30).toInt ∧ (v 30).toInt ≤ 1 := hv 30
  have rg31 : 0 ≤ (v 31).toInt ∧ (v 31).toInt ≤ 1200 := hv 31
  have rg33 : 0 ≤ (v 33).toInt ∧ (v 33).toInt ≤ 120 := hv 33
  have rgU : 0 ≤ (f 13 (Int32.toNatClampNeg (v 30))).toInt ∧ (f 13 (Int32.toNatClampNeg (v 30))).toInt ≤ 60 := hf 13 _ (show (Int32.toNatClampNeg (v 30)) < 2 from by rw [ow_tn]; omega)
  refine lv_aload_n hx hb dX12_e_0 rfl (lv_at hl 0 rfl) ?_
  refine lv_iconst (v := 0) hx hb dX12_e_1 (by decide) ?_
  refine mp_33 hx hb ht hown hK hP hD hS dX12_e_2 (fun H locs hP hD hS => ?_)
  have hv := MIv.up 33 hv (show 0 ≤ (0 : Int32).toInt ∧ (0 : Int32).toInt ≤ 120 from by omega)
  have hL : WL (va_up v 33 0) f := WL.upv 33 hL (by decide)
  have hR : RI (va_up v 33 0) f := RI.upv 33 hR (by decide)
  have hV_0 := FV.up hV_0 33 (0) (by decide)
  refine lv_aload_n hx hb dX12_e_5 rfl (lv_at hl 0 rfl) ?_
  refine lv_iconst (v := 0) hx hb dX12_e_6 (by decide) ?_
  refine mp_32 hx hb ht hown hK hP hD hS dX12_e_7 (fun H locs hP hD hS => ?_)
  have hv := MIv.up 32 hv (show 0 ≤ (0 : Int32).toInt ∧ (0 : Int32).toInt ≤ 7 from by omega)
  have hL : WL (va_up (va_up v 33 0) 32 0) f := WL.upv 32 hL (by decide)
  have hR : RI (va_up (va_up v 33 0) 32 0) f := RI.upv 32 hR (by decide)
  have hV_0 := FV.up hV_0 32 (0) (by decide)
  refine lv_aload_n hx hb dX12_e_10 rfl (lv_at hl 0 rfl) ?_
  refine lv_bipush (v := 7) hx hb dX12_e_11 (by decide) ?_
  refine lv_iconst (v := 0) hx hb dX12_e_13 (by decide) ?_
  have hFc := fr_free hD hS hA
  refine va_callv (va_runV (As := [.int 7, .int 0]) (rest := []) ⟨hx, hb, hml, hown, ht⟩ (m_pushE l G cy _ mo h T (va_up (va_up v 33 0) 32 0) nm f g (7) (0) ((0 : Int32)) hv hf hR hL rfl (show 0 ≤ ((0 : Int32)).toInt ∧ ((0 : Int32)).toInt ≤ 119 from by omega)) (cwV 2 ht (gv k_252 k_253 k_254 k_61 k_251) rfl rfl rfl (by decide +kernel) ⟨Nat.le_of_ble_eq_true rfl, Nat.le_of_ble_eq_true rfl⟩) ⟨En.blind, va_recv hK hP (ci := 12) (q0 := 0) rfl rfl, fun U hU hW => ⟨rfl, En.of hU hW hP hK hD hN⟩⟩ rfl rfl hl.1 rfl (lv_room (Nat.le_of_ble_eq_true rfl)) dX12_e_14 ⟨Nat.le_of_ble_eq_true rfl, Nat.le_of_ble_eq_true rfl⟩) hS (fun q _ h => hFc q h) hFc (fun u_1 t9 H locs ht9 hvm hw hB hz1 hk1 hS => ?_)
  obtain ⟨hP1, hD1⟩ := hB
  rw [ht9] at hP1
  have wu_1 := hw
  have q_3 : ((0 : Int32) + 1).toInt = (0 : Int32).toInt + 1 := ow_add rfl (by omega) (by omega)
  have hv := MIv.up 33 hv (show 0 ≤ ((0 : Int32) + 1).toInt ∧ ((0 : Int32) + 1).toInt ≤ 120 from by omega)
  have hR : RI (va_up (va_up (va_up v 33 0) 32 0) 33 ((0 : Int32) + 1)) f := RI.upv 33 hR (by decide)
  have hL : WL (va_up (va_up (va_up v 33 0) 32 0) 33 ((0 : Int32) + 1)) f := WL.upv 33 hL (by decide)
  have hV_0 := FV.up hV_0 33 ((0 : Int32) + 1) (by decide)
  have hf := MIf.up 26 (i := (Int32.toNatClampNeg (0 : Int32))) hf (ow_any (7 : Int32))
  have hF_0 := FF.up hF_0 26 (upd (f 26) (Int32.toNatClampNeg (0 : Int32)) (7 : Int32)) (by decide)
  have hR : RI (va_up (va_up (va_up v 33 0) 32 0) 33 ((0 : Int32) + 1)) (va_up f 26 (upd (f 26) (Int32.toNatClampNeg (0 : Int32)) (7 : Int32))) := RI.up 26 hR (by decide)
  have hL : WL (va_up (va_up (va_up v 33 0) 32 0) 33 ((0 : Int32) + 1)) (va_up f 26 (upd (f 26) (Int32.toNatClampNeg (0 : Int32)) (7 : Int32))) := WL.upf 26 hL (by decide)
  have hf := MIf.up 27 (i := (Int32.toNatClampNeg (0 : Int32))) hf (ow_any (0 : Int32))
  have hF_0 := FF.up hF_0 27 (upd ((va_up f 26 (upd (f 26) (Int32.toNatClampNeg (0 : Int32)) (7 : Int32))) 27) (Int32.toNatClampNeg (0 : Int32)) (0 : Int32)) (by decide)
  have hR : RI (va_up (va_up (va_up v 33 0) 32 0) 33 ((0 : Int32) + 1)) (va_up (va_up f 26 (upd (f 26) (Int32.toNatClampNeg (0 : Int32)) (7 : Int32))) 27 (upd ((va_up f 26 (upd (f 26) (Int32.toNatClampNeg (0 : Int32)) (7 : Int32))) 27) (Int32.toNatClampNeg (0 : Int32)) (0 : Int32))) := RI.up 27 hR (by decide)
  have hL : WL (va_up (va_up (va_up v 33 0) 32 0) 33 ((0 : Int32) + 1)) (va_up (va_up f 26 (upd (f 26) (Int32.toNatClampNeg (0 : Int32)) (7 : Int32))) 27 (upd ((va_up f 26 (upd (f 26) (Int32.toNatClampNeg (0 : Int32)) (7 : Int32))) 27) (Int32.toNatClampNeg (0 : Int32)) (0 : Int32))) := WL.upf 27 hL (by decide)
  have hP : va_P G vwCl (WMs cy mo h (va_up (va_up (va_up v 33 0) 32 0) 33 ((0 : Int32) + 1)) nm (va_up (va_up f 26 (upd (f 26) (Int32.toNatClampNeg (0 : Int32)) (7 : Int32))) 27 (upd ((va_up f 26 (upd (f 26) (Int32.toNatClampNeg (0 : Int32)) (7 : Int32))) 27) (Int32.toNatClampNeg (0 : Int32)) (0 : Int32))) g) H := hP1
  have hD : va_D A (WMs cy mo h (va_up (va_up (va_up v 33 0) 32 0) 33 ((0 : Int32) + 1)) nm (va_up (va_up f 26 (upd (f 26) (Int32.toNatClampNeg (0 : Int32)) (7 : Int32))) 27 (upd ((va_up f 26 (upd (f 26) (Int32.toNatClampNeg (0 : Int32)) (7 : Int32))) 27) (Int32.toNatClampNeg (0 : Int32)) (0 : Int32))) g) := hD1.weaken (fun _ _ _ h => hFc _ h)
  clear hFc hk1 hz1 hP1 hD1 hw
  refine lv_iconst (v := 1) hx hb dX12_e_17 (by decide) ?_
  refine lv_istore_n (lv' := [(1, .int 1), (0, .ref mo)]) hx hb dX12_e_18 rfl hl (by decide) rfl (fun ls hl => ?_)
  refine W.widen (k := 0) (n := 0) (Nat.le_of_ble_eq_true rfl) (Nat.le_of_ble_eq_true rfl) ?_
  have lp_4 : ∀ (N_4 : Nat) (x1_4 : Int32) (v4 : Nat → Int32) (nm4 : Int64) (f4 : Nat → Nat → Int32) (g4 : Nat → Nat → Int64) (H : Heap) (locs : List Loc) (ls : Array Slot), MIv T v4 → MIf f4 → RI v4 f4 → WL v4 f4 → FV [4, 5, 6, 7, 8, 9, 31, 32, 33] (va_up (va_up (va_up v 33 0) 32 0) 33 ((0 : Int32) + 1)) v4 → FF [13, 24, 25, 26, 27] (va_up (va_up f 26 (upd (f 26) (Int32.toNatClampNeg (0 : Int32)) (7 : Int32))) 27 (upd ((va_up f 26 (upd (f 26) (Int32.toNatClampNeg (0 : Int32)) (7 : Int32))) 27) (Int32.toNatClampNeg (0 : Int32)) (0 : Int32))) f4 → (0 ≤ x1_4.toInt ∧ x1_4.toInt ≤ 1) → ((v4 7).toInt ≤ (v 3).toInt ∧ ((v4 4).toInt ≠ 0 ∨ (v 4).toInt = 0) ∧ 0 ≤ mz (v 3).toInt (v4 7).toInt (v4 8).toInt ∧ mz (v 3).toInt (v4 7).toInt (v4 8).toInt ≤ mz (v 3).toInt (v 7).toInt (v 8).toInt) → ((v4 4).toInt = 0 → EI x1_4.toInt (v 30).toInt (v 31).toInt (v4 31).toInt (v4 33).toInt (v4 32).toInt ((f4 13) (Int32.toNatClampNeg (v 30))).toInt (f4 26) (f4 27) (f4 24) (f4 25)) → (OUT (v 31).toInt (600 * (v 30).toInt + 600) (f 24) (f 25) (f4 24) (f4 25)) → tkm (200 * mz (v 3).toInt (v4 7).toInt (v4 8).toInt + (v4 33).toInt) (v4 4).toInt < N_4 → va_P G vwCl (WMs cy mo h v4 nm4 f4 g4) H → va_D A (WMs cy mo h v4 nm4 f4 g4) → va_S A s.heap H locs → lv_has ls 2 [(1, .int x1_4), (0, .ref mo)] → W p l e (headSpec (.code yX12_e cX12_e 2 none :: TBg) ({ frames := 5, cells := 0, slots := 0, locals := 320 })).room s m ([.ref mo] : List Value).toArray below meth c H locs 0 0 (MQ below (va_Qv (fun (u : (Nat → Int32) × Int64 × (Nat → Nat → Int32) × (Nat → Nat → Int64)) => MIv T u.1 ∧ MIf u.2.2.1 ∧ RI u.1 u.2.2.1 ∧ WL u.1 u.2.2.1 ∧ FV [4, 5, 6, 7, 8, 9, 31, 32, 33] v u.1 ∧ FF [13, 24, 25, 26, 27] f u.2.2.1 ∧ (((u.1 7).toInt ≤ (v 3).toInt ∧ ((u.1 4).toInt ≠ 0 ∨ (v 4).toInt = 0))) ∧ (0 ≤ mz (v 3).toInt (u.1 7).toInt (u.1 8).toInt ∧ mz (v 3).toInt (u.1 7).toInt (u.1 8).toInt ≤ mz (v 3).toInt (v 7).toInt (v 8).toInt) ∧ ((u.1 4).toInt = 0 → wfr (u.2.2.1 24) (u.2.2.1 25) (v 31).toInt.toNat (u.1 31).toInt.toNat ∧ (v 31).toInt ≤ (u.1 31).toInt ∧ (u.1 31).toInt ≤ 600 * (v 30).toInt + 9 * (u.2.2.1 13 (Int32.toNatClampNeg (v 30))).toInt) ∧ (OUT (v 31).toInt (600 * (v 30).toInt + 600) (f 24) (f 25) (u.2.2.1 24) (u.2.2.1 25))) (fun u t => Ex G A (WMs cy mo h u.1 u.2.1 u.2.2.1 u.2.2.2) t) A) ([.ref mo] : List Value).toArray s 0 0 A) (F0 m 19 ls []) := by
    intro N_4
    induction N_4 with
    | zero => intro x1_4 v4 nm4 f4 g4 H locs ls hv hf hR hL hV_4 hF_4 qf4_0 qf4_1 qf4_2 qf4_3 hm hP hD hS hl; exact absurd hm (Nat.not_lt_zero _)
    | succ N_4 ih_4 =>
      intro x1_4 v4 nm4 f4 g4 H locs ls hv hf hR hL hV_4 hF_4 qf4_0 qf4_1 qf4_2 qf4_3 hm hP hD hS hl
      have hV_0 := FV.tr hV_0 hV_4 (by decide)
      have hF_0 := FF.tr hF_0 hF_4 (by decide)
      have hW_4 := hV_4
      have hY_4 := hF_4
      have h33n : 0 ≤ (v4 33).toInt ∧ (v4 33).toInt ≤ 120 := hv 33
      refine lv_aload_n hx hb dX12_e_19 rfl (lv_at hl 1 rfl) ?_
      have hFc := fr_new hS hA
      refine va_calli (va_runV (As := []) (rest := []) ⟨hx, hb, hml, hown, ht⟩ (m_isGood l G cy _ mo h T v4 nm4 f4 g4   hv hf hR hL) (cwV 0 ht (gv k_224 k_225 k_226 k_61 k_223) rfl rfl rfl (by decide +kernel) ⟨Nat.le_of_ble_eq_true rfl, Nat.le_of_ble_eq_true rfl⟩) ⟨En.blind, va_recv hK hP (ci := 12) (q0 := 0) rfl rfl, fun U hU hW => ⟨rfl, En.of hU hW hP hK hD hN⟩⟩ rfl rfl hl.1 rfl (lv_room (Nat.le_of_ble_eq_true rfl)) dX12_e_20 ⟨Nat.le_of_ble_eq_true rfl, Nat.le_of_ble_eq_true rfl⟩) hS (fun q _ h => hFc q h) hFc (fun r_u_5 u_5 t9 H locs ht9 hvm hw hB hz1 hk1 hS => ?_)
      have hP := fr_keep hP hk1
      have wu_5 := hw
      clear hFc hk1 hz1 hB hw
      have wu_5 : (r_u_5.toInt = 0 ∨ r_u_5.toInt = 1) ∧ ((r_u_5.toInt = 1 ∧ (v4 4).toInt = 0) ∨ (r_u_5.toInt = 0 ∧ (v4 4).toInt ≠ 0)) := wu_5
      refine lv_if_eq (tgt := 52) hx hb dX12_e_23 (by decide) (fun c_6 => ?_) (fun c_6 => ?_)
      · have q_7 : r_u_5.toInt = (0 : Int32).toInt := (ow_eq _ _).mp c_6
        refine W.widen (k := 0) (n := 0) (Nat.le_of_ble_eq_true rfl) (Nat.le_of_ble_eq_true rfl) ?_
        exact W.vret hx hb hr (fun t ht9 hW => ⟨⟨(v4, nm4, f4, g4), rfl, ⟨hv, hf, hR, hL, hV_0, hF_0, (show (v4 7).toInt ≤ (v 3).toInt ∧ ((v4 4).toInt ≠ 0 ∨ (v 4).toInt = 0) from by first | omega | (subst_vars; first | rfl | omega)), (show 0 ≤ mz (v 3).toInt (v4 7).toInt (v4 8).toInt ∧ mz (v 3).toInt (v4 7).toInt (v4 8).toInt ≤ mz (v 3).toInt (v 7).toInt (v 8).toInt from by omega), (show (v4 4).toInt = 0 → wfr (f4 24) (f4 25) (v 31).toInt.toNat (v4 31).toInt.toNat ∧ (v 31).toInt ≤ (v4 31).toInt ∧ (v4 31).toInt ≤ 600 * (v 30).toInt + 9 * ((f4 13) (Int32.toNatClampNeg (v 30))).toInt from by exact fun h9 => ⟨(qf4_2 h9).wf, (qf4_2 h9).f1, by have h8 := (qf4_2 h9).c0; have h7 := (qf4_2 h9).p1; omega⟩), (show OUT (v 31).toInt (600 * (v 30).toInt + 600) (f 24) (f 25) (f4 24) (f4 25) from by exact qf4_3)⟩, ⟨by rw [ht9]; exact hP, hD⟩⟩, hS.F ht9⟩) hS.2.2 dX12_e_52
      · have q_8 : ¬ r_u_5.toInt = (0 : Int32).toInt := by have := (not_congr (ow_eq _ _)).mp c_6; omega
        refine lv_aload_n hx hb dX12_e_26 rfl (lv_at hl 1 rfl) ?_
        refine mg_33 hx hb ht hown hK hP dX12_e_27 ?_
        have q_9 : 0 ≤ (v4 33).toInt ∧ (v4 33).toInt ≤ 120 := hv 33
        refine lv_if_le (tgt := 52) hx hb dX12_e_30 (by decide) (fun c_10 => ?_) (fun c_10 => ?_)
        · have q_11 : (v4 33).toInt ≤ (0 : Int32).toInt := (ow_le _ _).mp c_10
          refine W.widen (k := 0) (n := 0) (Nat.le_of_ble_eq_true rfl) (Nat.le_of_ble_eq_true rfl) ?_
          exact W.vret hx hb hr (fun t ht9 hW => ⟨⟨(v4, nm4, f4, g4), rfl, ⟨hv, hf, hR, hL, hV_0, hF_0, (show (v4 7).toInt ≤ (v 3).toInt ∧ ((v4 4).toInt ≠ 0 ∨ (v 4).toInt = 0) from by first | omega | (subst_vars; first | rfl | omega)), (show 0 ≤ mz (v 3).toInt (v4 7).toInt (v4 8).toInt ∧ mz (v 3).toInt (v4 7).toInt (v4 8).toInt ≤ mz (v 3).toInt (v 7).toInt (v 8).toInt from by omega), (show (v4 4).toInt = 0 → wfr (f4 24) (f4 25) (v 31).toInt.toNat (v4 31).toInt.toNat ∧ (v 31).toInt ≤ (v4 31).toInt ∧ (v4 31).toInt ≤ 600 * (v 30).toInt + 9 * ((f4 13) (Int32.toNatClampNeg (v 30))).toInt from by exact fun h9 => ⟨(qf4_2 h9).wf, (qf4_2 h9).f1, by have h8 := (qf4_2 h9).c0; have h7 := (qf4_2 h9).p1; omega⟩), (show OUT (v 31).toInt (600 * (v 30).toInt + 600) (f 24) (f 25) (f4 24) (f4 25) from by exact qf4_3)⟩, ⟨by rw [ht9]; exact hP, hD⟩⟩, hS.F ht9⟩) hS.2.2 dX12_e_52
        · have q_12 : (0 : Int32).toInt < (v4 33).toInt := by have := (not_congr (ow_le _ _)).mp c_10; omega
          refine lv_iload_n hx hb dX12_e_33 rfl (lv_at hl 0 rfl) ?_
          refine lv_if_eq (tgt := 44) hx hb dX12_e_34 (by decide) (fun c_13 => ?_) (fun c_13 => ?_)
          · have q_14 : x1_4.toInt = (0 : Int32).toInt := (ow_eq _ _).mp c_13
            refine lv_aload_n hx hb dX12_e_44 rfl (lv_at hl 1 rfl) ?_
            have hFc := fr_free hD hS hA
            refine va_calli (va_runV (As := []) (rest := []) ⟨hx, hb, hml, hown, ht⟩ (m_behindUnit l G cy _ mo h T v4 nm4 f4 g4  ((v 31).toInt) hv hf hR hL (show (v4 7).toInt ≤ (v4 3).toInt from by rw [(show v4 3 = (v 3) from (hV_4 3 (by decide)))]; omega) (show EI 0 (v4 30).toInt (v 31).toInt (v4 31).toInt (v4 33).toInt (v4 32).toInt ((f4 13) (Int32.toNatClampNeg (v4 30))).toInt (f4 26) (f4 27) (f4 24) (f4 25) from by rw [(show v4 30 = (v 30) from (hV_4 30 (by decide)))]; exact EI.cast (qf4_2 (by omega)) (by omega) rfl rfl rfl rfl) (show (v4 4).toInt = 0 from by omega) (show 1 ≤ (v4 33).toInt from by omega) (show (v4 30).toInt + (v4 29).toInt = 1 from by rw [(show v4 30 = (v 30) from (hV_4 30 (by decide))), (show v4 29 = (v 29) from (hV_4 29 (by decide)))]; omega)) (cwV 0 ht (gv k_276 k_277 k_278 k_61 k_275) rfl rfl rfl (by decide +kernel) ⟨Nat.le_of_ble_eq_true rfl, Nat.le_of_ble_eq_true rfl⟩) ⟨En.blind, va_recv hK hP (ci := 12) (q0 := 0) rfl rfl, fun U hU hW => ⟨rfl, En.of hU hW hP hK hD hN⟩⟩ rfl rfl hl.1 rfl (lv_room (Nat.le_of_ble_eq_true rfl)) dX12_e_45 ⟨Nat.le_of_ble_eq_true rfl, Nat.le_of_ble_eq_true rfl⟩) hS (fun q _ h => hFc q h) hFc (fun r_u_15 u_15 t9 H locs ht9 hvm hw hB hz1 hk1 hS => ?_)
            obtain ⟨v15, nm15, f15, g15⟩ := u_15
            obtain ⟨hP1, hD1⟩ := hB
            rw [ht9] at hP1
            obtain ⟨hv, hf, hR, hL, xu_15V, xu_15F, wu_15, xu_15_M, xu_15_E, xu_15_O⟩ := hw
            have hP : va_P G vwCl (WMs cy mo h v15 nm15 f15 g15) H := hP1
            have hD : va_D A (WMs cy mo h v15 nm15 f15 g15) := hD1.weaken (fun _ _ _ h => hFc _ h)
            dsimp only at hv hf hR hL wu_15 xu_15V xu_15F xu_15_M xu_15_E xu_15_O
            clear hFc hk1 hz1 hP1 hD1
            have hV_0 := FV.tr hV_0 xu_15V (by decide)
            have hF_0 := FF.tr hF_0 xu_15F (by decide)
            have hW_4 := FV.tr hW_4 xu_15V (by decide)
            have hY_4 := FF.tr hY_4 xu_15F (by decide)
            have wu_15 : (r_u_15.toInt = 0 ∨ r_u_15.toInt = 1) ∧ ((v15 7).toInt ≤ (v 3).toInt) := by
              have h9 : (r_u_15.toInt = 0 ∨ r_u_15.toInt = 1) ∧ ((v15 7).toInt ≤ (v4 3).toInt) := wu_15
              rw [(show v4 3 = (v 3) from (hV_4 3 (by decide)))] at h9
              exact h9
            have xu_15_M : 0 ≤ mz (v 3).toInt (v15 7).toInt (v15 8).toInt ∧ mz (v 3).toInt (v15 7).toInt (v15 8).toInt ≤ mz (v 3).toInt (v4 7).toInt (v4 8).toInt ∧ ((v15 4).toInt ≠ 0 ∨ mz (v 3).toInt (v15 7).toInt (v15 8).toInt < mz (v 3).toInt (v4 7).toInt (v4 8).toInt ∨ (v15 33).toInt < (v4 33).toInt) := by
              have h9 : 0 ≤ mz (v4 3).toInt (v15 7).toInt (v15 8).toInt ∧ mz (v4 3).toInt (v15 7).toInt (v15 8).toInt ≤ mz (v4 3).toInt (v4 7).toInt (v4 8).toInt ∧ ((v15 4).toInt ≠ 0 ∨ mz (v4 3).toInt (v15 7).toInt (v15 8).toInt < mz (v4 3).toInt (v4 7).toInt (v4 8).toInt ∨ (v15 33).toInt < (v4 33).toInt) := xu_15_M
              rw [(show v4 3 = (v 3) from (hV_4 3 (by decide)))] at h9
              exact h9
            have xu_15_E : (v15 4).toInt = 0 → EI r_u_15.toInt (v 30).toInt ((v 31).toInt) (v15 31).toInt (v15 33).toInt (v15 32).toInt ((f4 13) (Int32.toNatClampNeg (v 30))).toInt (f15 26) (f15 27) (f15 24) (f15 25) := by
              have h9 : (v15 4).toInt = 0 → EI r_u_15.toInt (v4 30).toInt ((v 31).toInt) (v15 31).toInt (v15 33).toInt (v15 32).toInt ((f4 13) (Int32.toNatClampNeg (v4 30))).toInt (f15 26) (f15 27) (f15 24) (f15 25) := xu_15_E
              rw [(show v4 30 = (v 30) from (hV_4 30 (by decide)))] at h9
              exact h9
            have xu_15_O : OUT ((v 31).toInt) (600 * (v 30).toInt + 600) (f4 24) (f4 25) (f15 24) (f15 25) := by
              have h9 : OUT ((v 31).toInt) (600 * (v4 30).toInt + 600) (f4 24) (f4 25) (f15 24) (f15 25) := xu_15_O
              rw [(show v4 30 = (v 30) from (hV_4 30 (by decide)))] at h9
              exact h9
            refine lv_istore_n (lv' := [(1, .int r_u_15), (0, .ref mo)]) hx hb dX12_e_48 rfl hl (by decide) rfl (fun ls hl => ?_)
            refine lv_goto (tgt := 19) hx hb dX12_e_49 (by decide) ?_
            refine W.widen (k := 0) (n := 0) (Nat.le_of_ble_eq_true rfl) (Nat.le_of_ble_eq_true rfl) ?_
            exact ih_4 r_u_15 v15 nm15 f15 g15 _ _ _ hv hf hR hL hW_4 hY_4 (by omega) (show (v15 7).toInt ≤ (v 3).toInt ∧ ((v15 4).toInt ≠ 0 ∨ (v 4).toInt = 0) ∧ 0 ≤ mz (v 3).toInt (v15 7).toInt (v15 8).toInt ∧ mz (v 3).toInt (v15 7).toInt (v15 8).toInt ≤ mz (v 3).toInt (v 7).toInt (v 8).toInt from by omega) (show (v15 4).toInt = 0 → EI r_u_15.toInt (v 30).toInt (v 31).toInt (v15 31).toInt (v15 33).toInt (v15 32).toInt ((f15 13) (Int32.toNatClampNeg (v 30))).toInt (f15 26) (f15 27) (f15 24) (f15 25) from by rw [(show f15 13 = (f4 13) from (xu_15F 13 (by decide)))]; exact xu_15_E) (show OUT (v 31).toInt (600 * (v 30).toInt + 600) (f 24) (f 25) (f15 24) (f15 25) from by exact OUT.tr qf4_3 xu_15_O) (show tkm (200 * mz (v 3).toInt (v15 7).toInt (v15 8).toInt + (v15 33).toInt) (v15 4).toInt < N_4 from by have h33 : 0 ≤ (v15 33).toInt ∧ (v15 33).toInt ≤ 120 := hv 33; have h9 : tkm (200 * mz (v 3).toInt (v15 7).toInt (v15 8).toInt + (v15 33).toInt) (v15 4).toInt < tkm (200 * mz (v 3).toInt (v4 7).toInt (v4 8).toInt + (v4 33).toInt) (v4 4).toInt := tkm_lt (by omega) (by omega); omega) hP hD hS (lv_sub hl [0, 1] rfl)
          · have q_16 : ¬ x1_4.toInt = (0 : Int32).toInt := by have := (not_congr (ow_eq _ _)).mp c_13; omega
            refine lv_aload_n hx hb dX12_e_37 rfl (lv_at hl 1 rfl) ?_
            have hFc := fr_free hD hS hA
            refine va_calli (va_runV (As := []) (rest := []) ⟨hx, hb, hml, hown, ht⟩ (m_unit l G cy _ mo h T v4 nm4 f4 g4  ((v 31).toInt) hv hf hR hL (show (v4 7).toInt ≤ (v4 3).toInt from by rw [(show v4 3 = (v 3) from (hV_4 3 (by decide)))]; omega) (show EI 1 (v4 30).toInt (v 31).toInt (v4 31).toInt (v4 33).toInt (v4 32).toInt ((f4 13) (Int32.toNatClampNeg (v4 30))).toInt (f4 26) (f4 27) (f4 24) (f4 25) from by rw [(show v4 30 = (v 30) from (hV_4 30 (by decide)))]; exact EI.cast (qf4_2 (by omega)) (by omega) rfl rfl rfl rfl) (show (v4 4).toInt = 0 from by omega) (show 1 ≤ (v4 33).toInt from by omega) (show (v4 30).toInt + (v4 29).toInt = 1 from by rw [(show v4 30 = (v 30) from (hV_4 30 (by decide))), (show v4 29 = (v 29) from (hV_4 29 (by decide)))]; omega)) (cwV 0 ht (gv k_280 k_281 k_282 k_61 k_279) rfl rfl rfl (by decide +kernel) ⟨Nat.le_of_ble_eq_true rfl, Nat.le_of_ble_eq_true rfl⟩) ⟨En.blind, va_recv hK hP (ci := 12) (q0 := 0) rfl rfl, fun U hU hW => ⟨rfl, En.of hU hW hP hK hD hN⟩⟩ rfl rfl hl.1 rfl (lv_room (Nat.le_of_ble_eq_true rfl)) dX12_e_38 ⟨Nat.le_of_ble_eq_true rfl, Nat.le_of_ble_eq_true rfl⟩) hS (fun q _ h => hFc q h) hFc (fun r_u_17 u_17 t9 H locs ht9 hvm hw hB hz1 hk1 hS => ?_)
            obtain ⟨v17, nm17, f17, g17⟩ := u_17
            obtain ⟨hP1, hD1⟩ := hB
            rw [ht9] at hP1
            obtain ⟨hv, hf, hR, hL, xu_17V, xu_17F, wu_17, xu_17_M, xu_17_E, xu_17_O⟩ := hw
            have hP : va_P G vwCl (WMs cy mo h v17 nm17 f17 g17) H := hP1
            have hD : va_D A (WMs cy mo h v17 nm17 f17 g17) := hD1.weaken (fun _ _ _ h => hFc _ h)
            dsimp only at hv hf hR hL wu_17 xu_17V xu_17F xu_17_M xu_17_E xu_17_O
            clear hFc hk1 hz1 hP1 hD1
            have hV_0 := FV.tr hV_0 xu_17V (by decide)
            have hF_0 := FF.tr hF_0 xu_17F (by decide)
            have hW_4 := FV.tr hW_4 xu_17V (by decide)
            have hY_4 := FF.tr hY_4 xu_17F (by decide)
            have wu_17 : (r_u_17.toInt = 0 ∨ r_u_17.toInt = 1) ∧ ((v17 7).toInt ≤ (v 3).toInt) := by
              have h9 : (r_u_17.toInt = 0 ∨ r_u_17.toInt = 1) ∧ ((v17 7).toInt ≤ (v4 3).toInt) := wu_17
              rw [(show v4 3 = (v 3) from (hV_4 3 (by decide)))] at h9
              exact h9
            have xu_17_M : 0 ≤ mz (v 3).toInt (v17 7).toInt (v17 8).toInt ∧ mz (v 3).toInt (v17 7).toInt (v17 8).toInt ≤ mz (v 3).toInt (v4 7).toInt (v4 8).toInt ∧ ((v17 4).toInt ≠ 0 ∨ mz (v 3).toInt (v17 7).toInt (v17 8).toInt < mz (v 3).toInt (v4 7).toInt (v4 8).toInt) := by
              have h9 : 0 ≤ mz (v4 3).toInt (v17 7).toInt (v17 8).toInt ∧ mz (v4 3).toInt (v17 7).toInt (v17 8).toInt ≤ mz (v4 3).toInt (v4 7).toInt (v4 8).toInt ∧ ((v17 4).toInt ≠ 0 ∨ mz (v4 3).toInt (v17 7).toInt (v17 8).toInt < mz (v4 3).toInt (v4 7).toInt (v4 8).toInt) := xu_17_M
              rw [(show v4 3 = (v 3) from (hV_4 3 (by decide)))] at h9
              exact h9
            have xu_17_E : (v17 4).toInt = 0 → EI r_u_17.toInt (v 30).toInt ((v 31).toInt) (v17 31).toInt (v17 33).toInt (v17 32).toInt ((f17 13) (Int32.toNatClampNeg (v 30))).toInt (f17 26) (f17 27) (f17 24) (f17 25) := by
              have h9 : (v17 4).toInt = 0 → EI r_u_17.toInt (v4 30).toInt ((v 31).toInt) (v17 31).toInt (v17 33).toInt (v17 32).toInt ((f17 13) (Int32.toNatClampNeg (v4 30))).toInt (f17 26) (f17 27) (f17 24) (f17 25) := xu_17_E
              rw [(show v4 30 = (v 30) from (hV_4 30 (by decide)))] at h9
              exact h9
            have xu_17_O : OUT ((v 31).toInt) (600 * (v 30).toInt + 600) (f4 24) (f4 25) (f17 24) (f17 25) := by
              have h9 : OUT ((v 31).toInt) (600 * (v4 30).toInt + 600) (f4 24) (f4 25) (f17 24) (f17 25) := xu_17_O
              rw [(show v4 30 = (v 30) from (hV_4 30 (by decide)))] at h9
              exact h9
            refine lv_goto (tgt := 48) hx hb dX12_e_41 (by decide) ?_
            refine lv_istore_n (lv' := [(1, .int r_u_17), (0, .ref mo)]) hx hb dX12_e_48 rfl hl (by decide) rfl (fun ls hl => ?_)
            refine lv_goto (tgt := 19) hx hb dX12_e_49 (by decide) ?_
            refine W.widen (k := 0) (n := 0) (Nat.le_of_ble_eq_true rfl) (Nat.le_of_ble_eq_true rfl) ?_
            exact ih_4 r_u_17 v17 nm17 f17 g17 _ _ _ hv hf hR hL hW_4 hY_4 (by omega) (show (v17 7).toInt ≤ (v 3).toInt ∧ ((v17 4).toInt ≠ 0 ∨ (v 4).toInt = 0) ∧ 0 ≤ mz (v 3).toInt (v17 7).toInt (v17 8).toInt ∧ mz (v 3).toInt (v17 7).toInt (v17 8).toInt ≤ mz (v 3).toInt (v 7).toInt (v 8).toInt from by omega) (show (v17 4).toInt = 0 → EI r_u_17.toInt (v 30).toInt (v 31).toInt (v17 31).toInt (v17 33).toInt (v17 32).toInt ((f17 13) (Int32.toNatClampNeg (v 30))).toInt (f17 26) (f17 27) (f17 24) (f17 25) from by exact xu_17_E) (show OUT (v 31).toInt (600 * (v 30).toInt + 600) (f 24) (f 25) (f17 24) (f17 25) from by exact OUT.tr qf4_3 xu_17_O) (show tkm (200 * mz (v 3).toInt (v17 7).toInt (v17 8).toInt + (v17 33).toInt) (v17 4).toInt < N_4 from by have h33 : 0 ≤ (v17 33).toInt ∧ (v17 33).toInt ≤ 120 := hv 33; have h9 : tkm (200 * mz (v 3).toInt (v17 7).toInt (v17 8).toInt + (v17 33).toInt) (v17 4).toInt < tkm (200 * mz (v 3).toInt (v4 7).toInt (v4 8).toInt + (v4 33).toInt) (v4 4).toInt := tkm_lt (by omega) (by omega); omega) hP hD hS (lv_sub hl [0, 1] rfl)
  exact lp_4 _ (1) (va_up (va_up (va_up v 33 0) 32 0) 33 ((0 : Int32) + 1)) nm (va_up (va_up f 26 (upd (f 26) (Int32.toNatClampNeg (0 : Int32)) (7 : Int32))) 27 (upd ((va_up f 26 (upd (f 26) (Int32.toNatClampNeg (0 : Int32)) (7 : Int32))) 27) (Int32.toNatClampNeg (0 : Int32)) (0 : Int32))) g _ _ _ hv hf hR hL FV.rf FF.rf (by omega) (show (v 7).toInt ≤ (v 3).toInt ∧ ((v 4).toInt ≠ 0 ∨ (v 4).toInt = 0) ∧ 0 ≤ mz (v 3).toInt (v 7).toInt (v 8).toInt ∧ mz (v 3).toInt (v 7).toInt (v 8).toInt ≤ mz (v 3).toInt (v 7).toInt (v 8).toInt from by omega) (show (v 4).toInt = 0 → EI (1 : Int32).toInt (v 30).toInt (v 31).toInt (v 31).toInt ((0 : Int32) + 1).toInt (0 : Int32).toInt ((f 13) (Int32.toNatClampNeg (v 30))).toInt (upd (f 26) (Int32.toNatClampNeg (0 : Int32)) (7 : Int32)) (upd (f 27) (Int32.toNatClampNeg (0 : Int32)) (0 : Int32)) (f 24) (f 25) from by exact fun h9 => EI.cast (EI.init (by omega) (by omega) (by omega) (by omega) (by omega)) (by omega) rfl (by omega) (by omega) rfl) OUT.rf (Nat.lt_succ_self _) hP hD hS (lv_sub hl [0, 1] rfl)
