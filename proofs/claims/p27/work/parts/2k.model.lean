theorem k_283 : (Cond.code yX12_fresh cX12_fresh 4 (some .long)) ∈ TBg := tb_mem 1270 (by decide +kernel) (by decide +kernel)
theorem k_284 : (Cond.methodLink RX12 273 yX12_fresh) ∈ TBg := tb_mem 1267 (by decide +kernel) (by decide +kernel)
theorem k_285 : (Cond.instanceMethod yX12_fresh) ∈ TBg := tb_mem 1269 (by decide +kernel) (by decide +kernel)
theorem k_286 : (Cond.selects RX12 yX12_fresh yX12_fresh) ∈ TBg := tb_mem 43 (by decide +kernel) (by decide +kernel)
theorem k_287 : (Cond.code yX12_numeral cX12_numeral 4 (some .int)) ∈ TBg := tb_mem 1278 (by decide +kernel) (by decide +kernel)
theorem k_288 : (Cond.methodLink RX12 277 yX12_numeral) ∈ TBg := tb_mem 1275 (by decide +kernel) (by decide +kernel)
theorem k_289 : (Cond.instanceMethod yX12_numeral) ∈ TBg := tb_mem 1277 (by decide +kernel) (by decide +kernel)
theorem k_290 : (Cond.selects RX12 yX12_numeral yX12_numeral) ∈ TBg := tb_mem 45 (by decide +kernel) (by decide +kernel)
theorem k_291 : (Cond.code yX12_e cX12_e 2 none) ∈ TBg := tb_mem 1286 (by decide +kernel) (by decide +kernel)
theorem k_292 : (Cond.methodLink RX12 281 yX12_e) ∈ TBg := tb_mem 1283 (by decide +kernel) (by decide +kernel)
theorem k_293 : (Cond.instanceMethod yX12_e) ∈ TBg := tb_mem 1285 (by decide +kernel) (by decide +kernel)
theorem k_294 : (Cond.selects RX12 yX12_e yX12_e) ∈ TBg := tb_mem 47 (by decide +kernel) (by decide +kernel)
theorem k_295 : (Cond.code yX12_isFull cX12_isFull 1 (some .boolean)) ∈ TBg := tb_mem 1242 (by decide +kernel) (by decide +kernel)
theorem k_296 : (Cond.methodLink RX12 246 yX12_isFull) ∈ TBg := tb_mem 1239 (by decide +kernel) (by decide +kernel)
theorem k_297 : (Cond.instanceMethod yX12_isFull) ∈ TBg := tb_mem 1241 (by decide +kernel) (by decide +kernel)
theorem k_298 : (Cond.selects RX12 yX12_isFull yX12_isFull) ∈ TBg := tb_mem 36 (by decide +kernel) (by decide +kernel)
theorem k_299 : (Cond.code yX12_readSweet cX12_readSweet 4 none) ∈ TBg := tb_mem 1322 (by decide +kernel) (by decide +kernel)
theorem k_300 : (Cond.methodLink RX12 255 yX12_readSweet) ∈ TBg := tb_mem 1319 (by decide +kernel) (by decide +kernel)
theorem k_301 : (Cond.instanceMethod yX12_readSweet) ∈ TBg := tb_mem 1321 (by decide +kernel) (by decide +kernel)
theorem k_302 : (Cond.selects RX12 yX12_readSweet yX12_readSweet) ∈ TBg := tb_mem 56 (by decide +kernel) (by decide +kernel)
theorem k_303 : (Cond.code yX12_readLock cX12_readLock 4 none) ∈ TBg := tb_mem 1282 (by decide +kernel) (by decide +kernel)
theorem k_304 : (Cond.methodLink RX12 252 yX12_readLock) ∈ TBg := tb_mem 1279 (by decide +kernel) (by decide +kernel)
theorem k_305 : (Cond.instanceMethod yX12_readLock) ∈ TBg := tb_mem 1281 (by decide +kernel) (by decide +kernel)
theorem k_306 : (Cond.selects RX12 yX12_readLock yX12_readLock) ∈ TBg := tb_mem 46 (by decide +kernel) (by decide +kernel)
theorem k_307 : (Cond.code yX12_readTune cX12_readTune 6 none) ∈ TBg := tb_mem 1258 (by decide +kernel) (by decide +kernel)
theorem k_308 : (Cond.methodLink RX12 249 yX12_readTune) ∈ TBg := tb_mem 1255 (by decide +kernel) (by decide +kernel)
theorem k_309 : (Cond.instanceMethod yX12_readTune) ∈ TBg := tb_mem 1257 (by decide +kernel) (by decide +kernel)
theorem k_310 : (Cond.selects RX12 yX12_readTune yX12_readTune) ∈ TBg := tb_mem 40 (by decide +kernel) (by decide +kernel)
theorem k_311 : (Cond.code yX12_clearBank cX12_clearBank 1 none) ∈ TBg := tb_mem 1016 (by decide +kernel) (by decide +kernel)
theorem k_312 : (Cond.methodLink RX12 131 yX12_clearBank) ∈ TBg := tb_mem 1013 (by decide +kernel) (by decide +kernel)
theorem k_313 : (Cond.instanceMethod yX12_clearBank) ∈ TBg := tb_mem 1015 (by decide +kernel) (by decide +kernel)
theorem k_314 : (Cond.selects RX12 yX12_clearBank yX12_clearBank) ∈ TBg := tb_mem 31 (by decide +kernel) (by decide +kernel)
theorem k_315 : (Cond.code yX12_readLine cX12_readLine 3 none) ∈ TBg := tb_mem 1238 (by decide +kernel) (by decide +kernel)
theorem k_316 : (Cond.methodLink RX12 230 yX12_readLine) ∈ TBg := tb_mem 1235 (by decide +kernel) (by decide +kernel)
theorem k_317 : (Cond.instanceMethod yX12_readLine) ∈ TBg := tb_mem 1237 (by decide +kernel) (by decide +kernel)
theorem k_318 : (Cond.selects RX12 yX12_readLine yX12_readLine) ∈ TBg := tb_mem 35 (by decide +kernel) (by decide +kernel)
theorem dX12_isFull_0 : decode cX12_isFull 0 = .ok (.aload_n 0, 1) := by decide +kernel
theorem dX12_isFull_1 : decode cX12_isFull 1 = .ok (.ldc2_w 140, 3) := by decide +kernel
theorem dX12_isFull_4 : decode cX12_isFull 4 = .ok (.invokevirtual 243, 3) := by decide +kernel
theorem dX12_isFull_7 : decode cX12_isFull 7 = .ok (.ifCond .eq 23, 3) := by decide +kernel
theorem dX12_isFull_30 : decode cX12_isFull 30 = .ok (.aload_n 0, 1) := by decide +kernel
theorem dX12_isFull_31 : decode cX12_isFull 31 = .ok (.ldc2_w 144, 3) := by decide +kernel
theorem dX12_isFull_34 : decode cX12_isFull 34 = .ok (.invokevirtual 243, 3) := by decide +kernel
theorem dX12_isFull_37 : decode cX12_isFull 37 = .ok (.ifCond .eq 23, 3) := by decide +kernel
theorem dX12_isFull_60 : decode cX12_isFull 60 = .ok (.aload_n 0, 1) := by decide +kernel
theorem dX12_isFull_61 : decode cX12_isFull 61 = .ok (.ldc2_w 150, 3) := by decide +kernel
theorem dX12_isFull_64 : decode cX12_isFull 64 = .ok (.invokevirtual 243, 3) := by decide +kernel
theorem dX12_isFull_67 : decode cX12_isFull 67 = .ok (.ifCond .eq 15, 3) := by decide +kernel
theorem dX12_isFull_82 : decode cX12_isFull 82 = .ok (.iconst 1, 1) := by decide +kernel
theorem dX12_isFull_83 : decode cX12_isFull 83 = .ok (.goto 4, 3) := by decide +kernel
theorem dX12_isFull_87 : decode cX12_isFull 87 = .ok (.ireturn, 1) := by decide +kernel
theorem dX12_isFull_70 : decode cX12_isFull 70 = .ok (.aload_n 0, 1) := by decide +kernel
theorem dX12_isFull_71 : decode cX12_isFull 71 = .ok (.getfield 51, 3) := by decide +kernel
theorem dX12_isFull_74 : decode cX12_isFull 74 = .ok (.aload_n 0, 1) := by decide +kernel
theorem dX12_isFull_75 : decode cX12_isFull 75 = .ok (.getfield 218, 3) := by decide +kernel
theorem dX12_isFull_78 : decode cX12_isFull 78 = .ok (.baload, 1) := by decide +kernel
theorem dX12_isFull_79 : decode cX12_isFull 79 = .ok (.ifCond .eq 7, 3) := by decide +kernel
theorem dX12_isFull_86 : decode cX12_isFull 86 = .ok (.iconst 0, 1) := by decide +kernel
theorem dX12_isFull_40 : decode cX12_isFull 40 = .ok (.aload_n 0, 1) := by decide +kernel
theorem dX12_isFull_41 : decode cX12_isFull 41 = .ok (.getfield 24, 3) := by decide +kernel
theorem dX12_isFull_44 : decode cX12_isFull 44 = .ok (.aload_n 0, 1) := by decide +kernel
theorem dX12_isFull_45 : decode cX12_isFull 45 = .ok (.getfield 218, 3) := by decide +kernel
theorem dX12_isFull_48 : decode cX12_isFull 48 = .ok (.iaload, 1) := by decide +kernel
theorem dX12_isFull_49 : decode cX12_isFull 49 = .ok (.bipush 8, 2) := by decide +kernel
theorem dX12_isFull_51 : decode cX12_isFull 51 = .ok (.if_icmp .ne 7, 3) := by decide +kernel
theorem dX12_isFull_58 : decode cX12_isFull 58 = .ok (.iconst 0, 1) := by decide +kernel
theorem dX12_isFull_59 : decode cX12_isFull 59 = .ok (.ireturn, 1) := by decide +kernel
theorem dX12_isFull_54 : decode cX12_isFull 54 = .ok (.iconst 1, 1) := by decide +kernel
theorem dX12_isFull_55 : decode cX12_isFull 55 = .ok (.goto 4, 3) := by decide +kernel
theorem dX12_isFull_10 : decode cX12_isFull 10 = .ok (.aload_n 0, 1) := by decide +kernel
theorem dX12_isFull_11 : decode cX12_isFull 11 = .ok (.getfield 20, 3) := by decide +kernel
theorem dX12_isFull_14 : decode cX12_isFull 14 = .ok (.aload_n 0, 1) := by decide +kernel
theorem dX12_isFull_15 : decode cX12_isFull 15 = .ok (.getfield 218, 3) := by decide +kernel
theorem dX12_isFull_18 : decode cX12_isFull 18 = .ok (.iaload, 1) := by decide +kernel
theorem dX12_isFull_19 : decode cX12_isFull 19 = .ok (.bipush 14, 2) := by decide +kernel
theorem dX12_isFull_21 : decode cX12_isFull 21 = .ok (.if_icmp .ne 7, 3) := by decide +kernel
theorem dX12_isFull_28 : decode cX12_isFull 28 = .ok (.iconst 0, 1) := by decide +kernel
theorem dX12_isFull_29 : decode cX12_isFull 29 = .ok (.ireturn, 1) := by decide +kernel
theorem dX12_isFull_24 : decode cX12_isFull 24 = .ok (.iconst 1, 1) := by decide +kernel
theorem dX12_isFull_25 : decode cX12_isFull 25 = .ok (.goto 4, 3) := by decide +kernel
theorem dX12_readTune_0 : decode cX12_readTune 0 = .ok (.bipush 14, 2) := by decide +kernel
theorem dX12_readTune_2 : decode cX12_readTune 2 = .ok (.aload_n 0, 1) := by decide +kernel
theorem dX12_readTune_3 : decode cX12_readTune 3 = .ok (.getfield 218, 3) := by decide +kernel
theorem dX12_readTune_6 : decode cX12_readTune 6 = .ok (.imul, 1) := by decide +kernel
theorem dX12_readTune_7 : decode cX12_readTune 7 = .ok (.aload_n 0, 1) := by decide +kernel
theorem dX12_readTune_8 : decode cX12_readTune 8 = .ok (.getfield 20, 3) := by decide +kernel
theorem dX12_readTune_11 : decode cX12_readTune 11 = .ok (.aload_n 0, 1) := by decide +kernel
theorem dX12_readTune_12 : decode cX12_readTune 12 = .ok (.getfield 218, 3) := by decide +kernel
theorem dX12_readTune_15 : decode cX12_readTune 15 = .ok (.iaload, 1) := by decide +kernel
theorem dX12_readTune_16 : decode cX12_readTune 16 = .ok (.iadd, 1) := by decide +kernel
theorem dX12_readTune_17 : decode cX12_readTune 17 = .ok (.istore_n 1, 1) := by decide +kernel
theorem dX12_readTune_18 : decode cX12_readTune 18 = .ok (.aload_n 0, 1) := by decide +kernel
theorem dX12_readTune_19 : decode cX12_readTune 19 = .ok (.aload_n 0, 1) := by decide +kernel
theorem dX12_readTune_20 : decode cX12_readTune 20 = .ok (.invokevirtual 269, 3) := by decide +kernel
theorem dX12_readTune_31 : decode cX12_readTune 31 = .ok (.invokevirtual 273, 3) := by decide +kernel
theorem dX12_readTune_34 : decode cX12_readTune 34 = .ok (.lstore_n 2, 1) := by decide +kernel
theorem dX12_readTune_35 : decode cX12_readTune 35 = .ok (.aload_n 0, 1) := by decide +kernel
theorem dX12_readTune_36 : decode cX12_readTune 36 = .ok (.aload_n 0, 1) := by decide +kernel
theorem dX12_readTune_37 : decode cX12_readTune 37 = .ok (.ldc2_w 142, 3) := by decide +kernel
theorem dX12_readTune_40 : decode cX12_readTune 40 = .ok (.invokevirtual 243, 3) := by decide +kernel
theorem dX12_readTune_43 : decode cX12_readTune 43 = .ok (.invokevirtual 261, 3) := by decide +kernel
theorem dX12_readTune_46 : decode cX12_readTune 46 = .ok (.aload_n 0, 1) := by decide +kernel
theorem dX12_readTune_47 : decode cX12_readTune 47 = .ok (.getfield 33, 3) := by decide +kernel
theorem dX12_readTune_50 : decode cX12_readTune 50 = .ok (.iload_n 1, 1) := by decide +kernel
theorem dX12_readTune_51 : decode cX12_readTune 51 = .ok (.iconst 0, 1) := by decide +kernel
theorem dX12_readTune_52 : decode cX12_readTune 52 = .ok (.iastore, 1) := by decide +kernel
theorem dX12_readTune_53 : decode cX12_readTune 53 = .ok (.aload_n 0, 1) := by decide +kernel
theorem dX12_readTune_54 : decode cX12_readTune 54 = .ok (.invokevirtual 208, 3) := by decide +kernel
theorem dX12_readTune_57 : decode cX12_readTune 57 = .ok (.ifCond .eq 110, 3) := by decide +kernel
theorem dX12_readTune_167 : decode cX12_readTune 167 = .ok (.aload_n 0, 1) := by decide +kernel
theorem dX12_readTune_168 : decode cX12_readTune 168 = .ok (.getfield 55, 3) := by decide +kernel
theorem dX12_readTune_171 : decode cX12_readTune 171 = .ok (.iload_n 1, 1) := by decide +kernel
theorem dX12_readTune_172 : decode cX12_readTune 172 = .ok (.lload_n 2, 1) := by decide +kernel
theorem dX12_readTune_173 : decode cX12_readTune 173 = .ok (.lastore, 1) := by decide +kernel
theorem dX12_readTune_174 : decode cX12_readTune 174 = .ok (.aload_n 0, 1) := by decide +kernel
theorem dX12_readTune_175 : decode cX12_readTune 175 = .ok (.getfield 20, 3) := by decide +kernel
theorem dX12_readTune_178 : decode cX12_readTune 178 = .ok (.aload_n 0, 1) := by decide +kernel
theorem dX12_readTune_179 : decode cX12_readTune 179 = .ok (.getfield 218, 3) := by decide +kernel
theorem dX12_readTune_182 : decode cX12_readTune 182 = .ok (.dup2, 1) := by decide +kernel
theorem dX12_readTune_183 : decode cX12_readTune 183 = .ok (.iaload, 1) := by decide +kernel
theorem dX12_readTune_184 : decode cX12_readTune 184 = .ok (.iconst 1, 1) := by decide +kernel
theorem dX12_readTune_185 : decode cX12_readTune 185 = .ok (.iadd, 1) := by decide +kernel
theorem dX12_readTune_186 : decode cX12_readTune 186 = .ok (.iastore, 1) := by decide +kernel
theorem dX12_readTune_187 : decode cX12_readTune 187 = .ok (.return_, 1) := by decide +kernel
theorem dX12_readTune_60 : decode cX12_readTune 60 = .ok (.aload_n 0, 1) := by decide +kernel
theorem dX12_readTune_61 : decode cX12_readTune 61 = .ok (.getfield 33, 3) := by decide +kernel
theorem dX12_readTune_64 : decode cX12_readTune 64 = .ok (.iload_n 1, 1) := by decide +kernel
theorem dX12_readTune_65 : decode cX12_readTune 65 = .ok (.iaload, 1) := by decide +kernel
theorem dX12_readTune_66 : decode cX12_readTune 66 = .ok (.ifCond .eq 11, 3) := by decide +kernel
theorem dX12_readTune_77 : decode cX12_readTune 77 = .ok (.aload_n 0, 1) := by decide +kernel
theorem dX12_readTune_78 : decode cX12_readTune 78 = .ok (.getfield 33, 3) := by decide +kernel
theorem dX12_readTune_81 : decode cX12_readTune 81 = .ok (.iload_n 1, 1) := by decide +kernel
theorem dX12_readTune_82 : decode cX12_readTune 82 = .ok (.iaload, 1) := by decide +kernel
theorem dX12_readTune_83 : decode cX12_readTune 83 = .ok (.bipush 12, 2) := by decide +kernel
theorem dX12_readTune_85 : decode cX12_readTune 85 = .ok (.if_icmp .ne 7, 3) := by decide +kernel
theorem dX12_readTune_92 : decode cX12_readTune 92 = .ok (.aload_n 0, 1) := by decide +kernel
theorem dX12_readTune_93 : decode cX12_readTune 93 = .ok (.iconst 0, 1) := by decide +kernel
theorem dX12_readTune_94 : decode cX12_readTune 94 = .ok (.bipush 60, 2) := by decide +kernel
theorem dX12_readTune_96 : decode cX12_readTune 96 = .ok (.invokevirtual 277, 3) := by decide +kernel
theorem dX12_readTune_99 : decode cX12_readTune 99 = .ok (.istore 4, 2) := by decide +kernel
theorem dX12_readTune_101 : decode cX12_readTune 101 = .ok (.aload_n 0, 1) := by decide +kernel
theorem dX12_readTune_102 : decode cX12_readTune 102 = .ok (.iconst 1, 1) := by decide +kernel
theorem dX12_readTune_103 : decode cX12_readTune 103 = .ok (.bipush 9, 2) := by decide +kernel
theorem dX12_readTune_105 : decode cX12_readTune 105 = .ok (.invokevirtual 277, 3) := by decide +kernel
theorem dX12_readTune_108 : decode cX12_readTune 108 = .ok (.istore 5, 2) := by decide +kernel
theorem dX12_readTune_110 : decode cX12_readTune 110 = .ok (.aload_n 0, 1) := by decide +kernel
theorem dX12_readTune_111 : decode cX12_readTune 111 = .ok (.invokevirtual 208, 3) := by decide +kernel
theorem dX12_readTune_114 : decode cX12_readTune 114 = .ok (.ifCond .ne 4, 3) := by decide +kernel
theorem dX12_readTune_118 : decode cX12_readTune 118 = .ok (.aload_n 0, 1) := by decide +kernel
theorem dX12_readTune_119 : decode cX12_readTune 119 = .ok (.getfield 36, 3) := by decide +kernel
theorem dX12_readTune_122 : decode cX12_readTune 122 = .ok (.bipush 40, 2) := by decide +kernel
theorem dX12_readTune_124 : decode cX12_readTune 124 = .ok (.iload_n 1, 1) := by decide +kernel
theorem dX12_readTune_125 : decode cX12_readTune 125 = .ok (.imul, 1) := by decide +kernel
theorem dX12_readTune_126 : decode cX12_readTune 126 = .ok (.aload_n 0, 1) := by decide +kernel
theorem dX12_readTune_127 : decode cX12_readTune 127 = .ok (.getfield 33, 3) := by decide +kernel
theorem dX12_readTune_130 : decode cX12_readTune 130 = .ok (.iload_n 1, 1) := by decide +kernel
theorem dX12_readTune_131 : decode cX12_readTune 131 = .ok (.iaload, 1) := by decide +kernel
theorem dX12_readTune_132 : decode cX12_readTune 132 = .ok (.iadd, 1) := by decide +kernel
theorem dX12_readTune_133 : decode cX12_readTune 133 = .ok (.iload 4, 2) := by decide +kernel
theorem dX12_readTune_135 : decode cX12_readTune 135 = .ok (.iastore, 1) := by decide +kernel
theorem dX12_readTune_136 : decode cX12_readTune 136 = .ok (.aload_n 0, 1) := by decide +kernel
theorem dX12_readTune_137 : decode cX12_readTune 137 = .ok (.getfield 39, 3) := by decide +kernel
theorem dX12_readTune_140 : decode cX12_readTune 140 = .ok (.bipush 40, 2) := by decide +kernel
theorem dX12_readTune_142 : decode cX12_readTune 142 = .ok (.iload_n 1, 1) := by decide +kernel
theorem dX12_readTune_143 : decode cX12_readTune 143 = .ok (.imul, 1) := by decide +kernel
theorem dX12_readTune_144 : decode cX12_readTune 144 = .ok (.aload_n 0, 1) := by decide +kernel
theorem dX12_readTune_145 : decode cX12_readTune 145 = .ok (.getfield 33, 3) := by decide +kernel
theorem dX12_readTune_148 : decode cX12_readTune 148 = .ok (.iload_n 1, 1) := by decide +kernel
theorem dX12_readTune_149 : decode cX12_readTune 149 = .ok (.iaload, 1) := by decide +kernel
theorem dX12_readTune_150 : decode cX12_readTune 150 = .ok (.iadd, 1) := by decide +kernel
theorem dX12_readTune_151 : decode cX12_readTune 151 = .ok (.iload 5, 2) := by decide +kernel
theorem dX12_readTune_153 : decode cX12_readTune 153 = .ok (.iastore, 1) := by decide +kernel
theorem dX12_readTune_154 : decode cX12_readTune 154 = .ok (.aload_n 0, 1) := by decide +kernel
theorem dX12_readTune_155 : decode cX12_readTune 155 = .ok (.getfield 33, 3) := by decide +kernel
theorem dX12_readTune_158 : decode cX12_readTune 158 = .ok (.iload_n 1, 1) := by decide +kernel
theorem dX12_readTune_159 : decode cX12_readTune 159 = .ok (.dup2, 1) := by decide +kernel
theorem dX12_readTune_160 : decode cX12_readTune 160 = .ok (.iaload, 1) := by decide +kernel
theorem dX12_readTune_161 : decode cX12_readTune 161 = .ok (.iconst 1, 1) := by decide +kernel
theorem dX12_readTune_162 : decode cX12_readTune 162 = .ok (.iadd, 1) := by decide +kernel
theorem dX12_readTune_163 : decode cX12_readTune 163 = .ok (.iastore, 1) := by decide +kernel
theorem dX12_readTune_164 : decode cX12_readTune 164 = .ok (.goto (-111), 3) := by decide +kernel
theorem dX12_readTune_117 : decode cX12_readTune 117 = .ok (.return_, 1) := by decide +kernel
theorem dX12_readTune_69 : decode cX12_readTune 69 = .ok (.aload_n 0, 1) := by decide +kernel
theorem dX12_readTune_70 : decode cX12_readTune 70 = .ok (.getfield 180, 3) := by decide +kernel
theorem dX12_readTune_73 : decode cX12_readTune 73 = .ok (.iconst 4, 1) := by decide +kernel
theorem dX12_readTune_74 : decode cX12_readTune 74 = .ok (.if_icmp .ne 93, 3) := by decide +kernel
theorem dX12_readTune_88 : decode cX12_readTune 88 = .ok (.aload_n 0, 1) := by decide +kernel
theorem dX12_readTune_89 : decode cX12_readTune 89 = .ok (.invokevirtual 215, 3) := by decide +kernel
theorem dX12_readTune_23 : decode cX12_readTune 23 = .ok (.ifCond .lt 7, 3) := by decide +kernel
theorem dX12_readTune_30 : decode cX12_readTune 30 = .ok (.iconst 0, 1) := by decide +kernel
theorem dX12_readTune_26 : decode cX12_readTune 26 = .ok (.iconst 1, 1) := by decide +kernel
theorem dX12_readTune_27 : decode cX12_readTune 27 = .ok (.goto 4, 3) := by decide +kernel
theorem dX12_readSweet_0 : decode cX12_readSweet 0 = .ok (.aload_n 0, 1) := by decide +kernel
theorem dX12_readSweet_1 : decode cX12_readSweet 1 = .ok (.getfield 51, 3) := by decide +kernel
theorem dX12_readSweet_4 : decode cX12_readSweet 4 = .ok (.aload_n 0, 1) := by decide +kernel
theorem dX12_readSweet_5 : decode cX12_readSweet 5 = .ok (.getfield 218, 3) := by decide +kernel
theorem dX12_readSweet_8 : decode cX12_readSweet 8 = .ok (.iconst 1, 1) := by decide +kernel
theorem dX12_readSweet_9 : decode cX12_readSweet 9 = .ok (.bastore, 1) := by decide +kernel
theorem dX12_readSweet_10 : decode cX12_readSweet 10 = .ok (.iconst 0, 1) := by decide +kernel
theorem dX12_readSweet_11 : decode cX12_readSweet 11 = .ok (.istore_n 1, 1) := by decide +kernel
theorem dX12_readSweet_12 : decode cX12_readSweet 12 = .ok (.iconst 0, 1) := by decide +kernel
theorem dX12_readSweet_13 : decode cX12_readSweet 13 = .ok (.istore_n 2, 1) := by decide +kernel
theorem dX12_readSweet_14 : decode cX12_readSweet 14 = .ok (.aload_n 0, 1) := by decide +kernel
theorem dX12_readSweet_15 : decode cX12_readSweet 15 = .ok (.invokevirtual 208, 3) := by decide +kernel
theorem dX12_readSweet_18 : decode cX12_readSweet 18 = .ok (.ifCond .eq 90, 3) := by decide +kernel
theorem dX12_readSweet_108 : decode cX12_readSweet 108 = .ok (.aload_n 0, 1) := by decide +kernel
theorem dX12_readSweet_109 : decode cX12_readSweet 109 = .ok (.getfield 30, 3) := by decide +kernel
theorem dX12_readSweet_112 : decode cX12_readSweet 112 = .ok (.aload_n 0, 1) := by decide +kernel
theorem dX12_readSweet_113 : decode cX12_readSweet 113 = .ok (.getfield 218, 3) := by decide +kernel
theorem dX12_readSweet_116 : decode cX12_readSweet 116 = .ok (.iload_n 1, 1) := by decide +kernel
theorem dX12_readSweet_117 : decode cX12_readSweet 117 = .ok (.iastore, 1) := by decide +kernel
theorem dX12_readSweet_118 : decode cX12_readSweet 118 = .ok (.return_, 1) := by decide +kernel
theorem dX12_readSweet_21 : decode cX12_readSweet 21 = .ok (.iload_n 2, 1) := by decide +kernel
theorem dX12_readSweet_22 : decode cX12_readSweet 22 = .ok (.ifCond .eq 11, 3) := by decide +kernel
theorem dX12_readSweet_88 : decode cX12_readSweet 88 = .ok (.aload_n 0, 1) := by decide +kernel
theorem dX12_readSweet_89 : decode cX12_readSweet 89 = .ok (.iconst 0, 1) := by decide +kernel
theorem dX12_readSweet_90 : decode cX12_readSweet 90 = .ok (.bipush 11, 2) := by decide +kernel
theorem dX12_readSweet_92 : decode cX12_readSweet 92 = .ok (.invokevirtual 277, 3) := by decide +kernel
theorem dX12_readSweet_95 : decode cX12_readSweet 95 = .ok (.istore_n 3, 1) := by decide +kernel
theorem dX12_readSweet_96 : decode cX12_readSweet 96 = .ok (.iload_n 1, 1) := by decide +kernel
theorem dX12_readSweet_97 : decode cX12_readSweet 97 = .ok (.iconst 1, 1) := by decide +kernel
theorem dX12_readSweet_98 : decode cX12_readSweet 98 = .ok (.iload_n 3, 1) := by decide +kernel
theorem dX12_readSweet_99 : decode cX12_readSweet 99 = .ok (.ishl, 1) := by decide +kernel
theorem dX12_readSweet_100 : decode cX12_readSweet 100 = .ok (.ior, 1) := by decide +kernel
theorem dX12_readSweet_101 : decode cX12_readSweet 101 = .ok (.istore_n 1, 1) := by decide +kernel
theorem dX12_readSweet_102 : decode cX12_readSweet 102 = .ok (.iinc 2 1, 3) := by decide +kernel
theorem dX12_readSweet_105 : decode cX12_readSweet 105 = .ok (.goto (-91), 3) := by decide +kernel
theorem dX12_readSweet_33 : decode cX12_readSweet 33 = .ok (.iload_n 2, 1) := by decide +kernel
theorem dX12_readSweet_34 : decode cX12_readSweet 34 = .ok (.bipush 12, 2) := by decide +kernel
theorem dX12_readSweet_36 : decode cX12_readSweet 36 = .ok (.if_icmp .ne 7, 3) := by decide +kernel
theorem dX12_readSweet_43 : decode cX12_readSweet 43 = .ok (.aload_n 0, 1) := by decide +kernel
theorem dX12_readSweet_44 : decode cX12_readSweet 44 = .ok (.invokevirtual 208, 3) := by decide +kernel
theorem dX12_readSweet_47 : decode cX12_readSweet 47 = .ok (.ifCond .eq 41, 3) := by decide +kernel
theorem dX12_readSweet_50 : decode cX12_readSweet 50 = .ok (.aload_n 0, 1) := by decide +kernel
theorem dX12_readSweet_51 : decode cX12_readSweet 51 = .ok (.getfield 180, 3) := by decide +kernel
theorem dX12_readSweet_54 : decode cX12_readSweet 54 = .ok (.iconst 4, 1) := by decide +kernel
theorem dX12_readSweet_55 : decode cX12_readSweet 55 = .ok (.if_icmp .ne 33, 3) := by decide +kernel
theorem dX12_readSweet_58 : decode cX12_readSweet 58 = .ok (.aload_n 0, 1) := by decide +kernel
theorem dX12_readSweet_59 : decode cX12_readSweet 59 = .ok (.getfield 198, 3) := by decide +kernel
theorem dX12_readSweet_62 : decode cX12_readSweet 62 = .ok (.bipush 12, 2) := by decide +kernel
theorem dX12_readSweet_64 : decode cX12_readSweet 64 = .ok (.if_icmp .ge 24, 3) := by decide +kernel
theorem dX12_readSweet_67 : decode cX12_readSweet 67 = .ok (.iload_n 1, 1) := by decide +kernel
theorem dX12_readSweet_68 : decode cX12_readSweet 68 = .ok (.aload_n 0, 1) := by decide +kernel
theorem dX12_readSweet_69 : decode cX12_readSweet 69 = .ok (.getfield 198, 3) := by decide +kernel
theorem dX12_readSweet_72 : decode cX12_readSweet 72 = .ok (.ishr, 1) := by decide +kernel
theorem dX12_readSweet_73 : decode cX12_readSweet 73 = .ok (.iconst 1, 1) := by decide +kernel
theorem dX12_readSweet_74 : decode cX12_readSweet 74 = .ok (.iand, 1) := by decide +kernel
theorem dX12_readSweet_75 : decode cX12_readSweet 75 = .ok (.iconst 1, 1) := by decide +kernel
theorem dX12_readSweet_76 : decode cX12_readSweet 76 = .ok (.if_icmp .ne 12, 3) := by decide +kernel
theorem dX12_readSweet_79 : decode cX12_readSweet 79 = .ok (.aload_n 0, 1) := by decide +kernel
theorem dX12_readSweet_80 : decode cX12_readSweet 80 = .ok (.iconst 3, 1) := by decide +kernel
theorem dX12_readSweet_81 : decode cX12_readSweet 81 = .ok (.aload_n 0, 1) := by decide +kernel
theorem dX12_readSweet_82 : decode cX12_readSweet 82 = .ok (.getfield 173, 3) := by decide +kernel
theorem dX12_readSweet_85 : decode cX12_readSweet 85 = .ok (.invokevirtual 204, 3) := by decide +kernel
theorem dX12_readSweet_25 : decode cX12_readSweet 25 = .ok (.aload_n 0, 1) := by decide +kernel
theorem dX12_readSweet_26 : decode cX12_readSweet 26 = .ok (.getfield 180, 3) := by decide +kernel
theorem dX12_readSweet_29 : decode cX12_readSweet 29 = .ok (.iconst 4, 1) := by decide +kernel
theorem dX12_readSweet_30 : decode cX12_readSweet 30 = .ok (.if_icmp .ne 78, 3) := by decide +kernel
theorem dX12_readSweet_39 : decode cX12_readSweet 39 = .ok (.aload_n 0, 1) := by decide +kernel
theorem dX12_readSweet_40 : decode cX12_readSweet 40 = .ok (.invokevirtual 215, 3) := by decide +kernel
theorem dX12_readLock_0 : decode cX12_readLock 0 = .ok (.bipush 8, 2) := by decide +kernel
theorem dX12_readLock_2 : decode cX12_readLock 2 = .ok (.aload_n 0, 1) := by decide +kernel
theorem dX12_readLock_3 : decode cX12_readLock 3 = .ok (.getfield 218, 3) := by decide +kernel
theorem dX12_readLock_6 : decode cX12_readLock 6 = .ok (.imul, 1) := by decide +kernel
theorem dX12_readLock_7 : decode cX12_readLock 7 = .ok (.aload_n 0, 1) := by decide +kernel
theorem dX12_readLock_8 : decode cX12_readLock 8 = .ok (.getfield 24, 3) := by decide +kernel
theorem dX12_readLock_11 : decode cX12_readLock 11 = .ok (.aload_n 0, 1) := by decide +kernel
theorem dX12_readLock_12 : decode cX12_readLock 12 = .ok (.getfield 218, 3) := by decide +kernel
theorem dX12_readLock_15 : decode cX12_readLock 15 = .ok (.iaload, 1) := by decide +kernel
theorem dX12_readLock_16 : decode cX12_readLock 16 = .ok (.iadd, 1) := by decide +kernel
theorem dX12_readLock_17 : decode cX12_readLock 17 = .ok (.istore_n 1, 1) := by decide +kernel
theorem dX12_readLock_18 : decode cX12_readLock 18 = .ok (.aload_n 0, 1) := by decide +kernel
theorem dX12_readLock_19 : decode cX12_readLock 19 = .ok (.aload_n 0, 1) := by decide +kernel
theorem dX12_readLock_20 : decode cX12_readLock 20 = .ok (.aload_n 0, 1) := by decide +kernel
theorem dX12_readLock_21 : decode cX12_readLock 21 = .ok (.getfield 59, 3) := by decide +kernel
theorem dX12_readLock_24 : decode cX12_readLock 24 = .ok (.bipush 8, 2) := by decide +kernel
theorem dX12_readLock_26 : decode cX12_readLock 26 = .ok (.aload_n 0, 1) := by decide +kernel
theorem dX12_readLock_27 : decode cX12_readLock 27 = .ok (.getfield 218, 3) := by decide +kernel
theorem dX12_readLock_30 : decode cX12_readLock 30 = .ok (.imul, 1) := by decide +kernel
theorem dX12_readLock_31 : decode cX12_readLock 31 = .ok (.aload_n 0, 1) := by decide +kernel
theorem dX12_readLock_32 : decode cX12_readLock 32 = .ok (.getfield 24, 3) := by decide +kernel
theorem dX12_readLock_35 : decode cX12_readLock 35 = .ok (.aload_n 0, 1) := by decide +kernel
theorem dX12_readLock_36 : decode cX12_readLock 36 = .ok (.getfield 218, 3) := by decide +kernel
theorem dX12_readLock_39 : decode cX12_readLock 39 = .ok (.iaload, 1) := by decide +kernel
theorem dX12_readLock_40 : decode cX12_readLock 40 = .ok (.invokevirtual 265, 3) := by decide +kernel
theorem dX12_readLock_51 : decode cX12_readLock 51 = .ok (.invokevirtual 273, 3) := by decide +kernel
theorem dX12_readLock_54 : decode cX12_readLock 54 = .ok (.lstore_n 2, 1) := by decide +kernel
theorem dX12_readLock_55 : decode cX12_readLock 55 = .ok (.aload_n 0, 1) := by decide +kernel
theorem dX12_readLock_56 : decode cX12_readLock 56 = .ok (.aload_n 0, 1) := by decide +kernel
theorem dX12_readLock_57 : decode cX12_readLock 57 = .ok (.ldc2_w 146, 3) := by decide +kernel
theorem dX12_readLock_60 : decode cX12_readLock 60 = .ok (.invokevirtual 243, 3) := by decide +kernel
theorem dX12_readLock_63 : decode cX12_readLock 63 = .ok (.invokevirtual 261, 3) := by decide +kernel
theorem dX12_readLock_66 : decode cX12_readLock 66 = .ok (.aload_n 0, 1) := by decide +kernel
theorem dX12_readLock_67 : decode cX12_readLock 67 = .ok (.getfield 42, 3) := by decide +kernel
theorem dX12_readLock_70 : decode cX12_readLock 70 = .ok (.iload_n 1, 1) := by decide +kernel
theorem dX12_readLock_71 : decode cX12_readLock 71 = .ok (.aload_n 0, 1) := by decide +kernel
theorem dX12_readLock_72 : decode cX12_readLock 72 = .ok (.iconst 0, 1) := by decide +kernel
theorem dX12_readLock_73 : decode cX12_readLock 73 = .ok (.bipush 20, 2) := by decide +kernel
theorem dX12_readLock_75 : decode cX12_readLock 75 = .ok (.invokevirtual 277, 3) := by decide +kernel
theorem dX12_readLock_78 : decode cX12_readLock 78 = .ok (.iastore, 1) := by decide +kernel
theorem dX12_readLock_79 : decode cX12_readLock 79 = .ok (.aload_n 0, 1) := by decide +kernel
theorem dX12_readLock_80 : decode cX12_readLock 80 = .ok (.aload_n 0, 1) := by decide +kernel
theorem dX12_readLock_81 : decode cX12_readLock 81 = .ok (.ldc2_w 148, 3) := by decide +kernel
theorem dX12_readLock_84 : decode cX12_readLock 84 = .ok (.invokevirtual 243, 3) := by decide +kernel
theorem dX12_readLock_87 : decode cX12_readLock 87 = .ok (.invokevirtual 261, 3) := by decide +kernel
theorem dX12_readLock_90 : decode cX12_readLock 90 = .ok (.aload_n 0, 1) := by decide +kernel
theorem dX12_readLock_91 : decode cX12_readLock 91 = .ok (.getfield 45, 3) := by decide +kernel
theorem dX12_readLock_94 : decode cX12_readLock 94 = .ok (.iload_n 1, 1) := by decide +kernel
theorem dX12_readLock_95 : decode cX12_readLock 95 = .ok (.aload_n 0, 1) := by decide +kernel
theorem dX12_readLock_96 : decode cX12_readLock 96 = .ok (.getfield 221, 3) := by decide +kernel
theorem dX12_readLock_99 : decode cX12_readLock 99 = .ok (.iastore, 1) := by decide +kernel
theorem dX12_readLock_100 : decode cX12_readLock 100 = .ok (.aload_n 0, 1) := by decide +kernel
theorem dX12_readLock_101 : decode cX12_readLock 101 = .ok (.invokevirtual 281, 3) := by decide +kernel
theorem dX12_readLock_104 : decode cX12_readLock 104 = .ok (.aload_n 0, 1) := by decide +kernel
theorem dX12_readLock_105 : decode cX12_readLock 105 = .ok (.getfield 48, 3) := by decide +kernel
theorem dX12_readLock_108 : decode cX12_readLock 108 = .ok (.iload_n 1, 1) := by decide +kernel
theorem dX12_readLock_109 : decode cX12_readLock 109 = .ok (.aload_n 0, 1) := by decide +kernel
theorem dX12_readLock_110 : decode cX12_readLock 110 = .ok (.getfield 221, 3) := by decide +kernel
theorem dX12_readLock_113 : decode cX12_readLock 113 = .ok (.iastore, 1) := by decide +kernel
theorem dX12_readLock_114 : decode cX12_readLock 114 = .ok (.aload_n 0, 1) := by decide +kernel
theorem dX12_readLock_115 : decode cX12_readLock 115 = .ok (.getfield 59, 3) := by decide +kernel
theorem dX12_readLock_118 : decode cX12_readLock 118 = .ok (.iload_n 1, 1) := by decide +kernel
theorem dX12_readLock_119 : decode cX12_readLock 119 = .ok (.lload_n 2, 1) := by decide +kernel
theorem dX12_readLock_120 : decode cX12_readLock 120 = .ok (.lastore, 1) := by decide +kernel
theorem dX12_readLock_121 : decode cX12_readLock 121 = .ok (.aload_n 0, 1) := by decide +kernel
theorem dX12_readLock_122 : decode cX12_readLock 122 = .ok (.getfield 24, 3) := by decide +kernel
theorem dX12_readLock_125 : decode cX12_readLock 125 = .ok (.aload_n 0, 1) := by decide +kernel
theorem dX12_readLock_126 : decode cX12_readLock 126 = .ok (.getfield 218, 3) := by decide +kernel
theorem dX12_readLock_129 : decode cX12_readLock 129 = .ok (.dup2, 1) := by decide +kernel
theorem dX12_readLock_130 : decode cX12_readLock 130 = .ok (.iaload, 1) := by decide +kernel
theorem dX12_readLock_131 : decode cX12_readLock 131 = .ok (.iconst 1, 1) := by decide +kernel
theorem dX12_readLock_132 : decode cX12_readLock 132 = .ok (.iadd, 1) := by decide +kernel
theorem dX12_readLock_133 : decode cX12_readLock 133 = .ok (.iastore, 1) := by decide +kernel
theorem dX12_readLock_134 : decode cX12_readLock 134 = .ok (.return_, 1) := by decide +kernel
theorem dX12_readLock_43 : decode cX12_readLock 43 = .ok (.ifCond .lt 7, 3) := by decide +kernel
theorem dX12_readLock_50 : decode cX12_readLock 50 = .ok (.iconst 0, 1) := by decide +kernel
theorem dX12_readLock_46 : decode cX12_readLock 46 = .ok (.iconst 1, 1) := by decide +kernel
theorem dX12_readLock_47 : decode cX12_readLock 47 = .ok (.goto 4, 3) := by decide +kernel
theorem dX12_readLine_0 : decode cX12_readLine 0 = .ok (.aload_n 0, 1) := by decide +kernel
theorem dX12_readLine_1 : decode cX12_readLine 1 = .ok (.getfield 187, 3) := by decide +kernel
theorem dX12_readLine_4 : decode cX12_readLine 4 = .ok (.lstore_n 1, 1) := by decide +kernel
theorem dX12_readLine_5 : decode cX12_readLine 5 = .ok (.aload_n 0, 1) := by decide +kernel
theorem dX12_readLine_6 : decode cX12_readLine 6 = .ok (.getfield 180, 3) := by decide +kernel
theorem dX12_readLine_9 : decode cX12_readLine 9 = .ok (.iconst 3, 1) := by decide +kernel
theorem dX12_readLine_10 : decode cX12_readLine 10 = .ok (.if_icmp .ne 10, 3) := by decide +kernel
theorem dX12_readLine_20 : decode cX12_readLine 20 = .ok (.aload_n 0, 1) := by decide +kernel
theorem dX12_readLine_21 : decode cX12_readLine 21 = .ok (.invokevirtual 215, 3) := by decide +kernel
theorem dX12_readLine_24 : decode cX12_readLine 24 = .ok (.aload_n 0, 1) := by decide +kernel
theorem dX12_readLine_25 : decode cX12_readLine 25 = .ok (.invokevirtual 208, 3) := by decide +kernel
theorem dX12_readLine_28 : decode cX12_readLine 28 = .ok (.ifCond .ne 4, 3) := by decide +kernel
theorem dX12_readLine_31 : decode cX12_readLine 31 = .ok (.return_, 1) := by decide +kernel
theorem dX12_readLine_13 : decode cX12_readLine 13 = .ok (.aload_n 0, 1) := by decide +kernel
theorem dX12_readLine_14 : decode cX12_readLine 14 = .ok (.invokevirtual 246, 3) := by decide +kernel
theorem dX12_readLine_17 : decode cX12_readLine 17 = .ok (.ifCond .eq 7, 3) := by decide +kernel
theorem dX12_readLine_32 : decode cX12_readLine 32 = .ok (.aload_n 0, 1) := by decide +kernel
theorem dX12_readLine_33 : decode cX12_readLine 33 = .ok (.invokevirtual 212, 3) := by decide +kernel
theorem dX12_readLine_36 : decode cX12_readLine 36 = .ok (.lload_n 1, 1) := by decide +kernel
theorem dX12_readLine_37 : decode cX12_readLine 37 = .ok (.ldc2_w 140, 3) := by decide +kernel
theorem dX12_readLine_40 : decode cX12_readLine 40 = .ok (.lcmp, 1) := by decide +kernel
theorem dX12_readLine_41 : decode cX12_readLine 41 = .ok (.ifCond .ne 7, 3) := by decide +kernel
theorem dX12_readLine_48 : decode cX12_readLine 48 = .ok (.lload_n 1, 1) := by decide +kernel
theorem dX12_readLine_49 : decode cX12_readLine 49 = .ok (.ldc2_w 144, 3) := by decide +kernel
theorem dX12_readLine_52 : decode cX12_readLine 52 = .ok (.lcmp, 1) := by decide +kernel
theorem dX12_readLine_53 : decode cX12_readLine 53 = .ok (.ifCond .ne 7, 3) := by decide +kernel
theorem dX12_readLine_60 : decode cX12_readLine 60 = .ok (.lload_n 1, 1) := by decide +kernel
theorem dX12_readLine_61 : decode cX12_readLine 61 = .ok (.ldc2_w 150, 3) := by decide +kernel
theorem dX12_readLine_64 : decode cX12_readLine 64 = .ok (.lcmp, 1) := by decide +kernel
theorem dX12_readLine_65 : decode cX12_readLine 65 = .ok (.ifCond .ne 7, 3) := by decide +kernel
theorem dX12_readLine_72 : decode cX12_readLine 72 = .ok (.aload_n 0, 1) := by decide +kernel
theorem dX12_readLine_73 : decode cX12_readLine 73 = .ok (.aload_n 0, 1) := by decide +kernel
theorem dX12_readLine_74 : decode cX12_readLine 74 = .ok (.bipush 59, 2) := by decide +kernel
theorem dX12_readLine_76 : decode cX12_readLine 76 = .ok (.invokevirtual 258, 3) := by decide +kernel
theorem dX12_readLine_79 : decode cX12_readLine 79 = .ok (.invokevirtual 261, 3) := by decide +kernel
theorem dX12_readLine_82 : decode cX12_readLine 82 = .ok (.return_, 1) := by decide +kernel
theorem dX12_readLine_68 : decode cX12_readLine 68 = .ok (.aload_n 0, 1) := by decide +kernel
theorem dX12_readLine_69 : decode cX12_readLine 69 = .ok (.invokevirtual 255, 3) := by decide +kernel
theorem dX12_readLine_56 : decode cX12_readLine 56 = .ok (.aload_n 0, 1) := by decide +kernel
theorem dX12_readLine_57 : decode cX12_readLine 57 = .ok (.invokevirtual 252, 3) := by decide +kernel
theorem dX12_readLine_44 : decode cX12_readLine 44 = .ok (.aload_n 0, 1) := by decide +kernel
theorem dX12_readLine_45 : decode cX12_readLine 45 = .ok (.invokevirtual 249, 3) := by decide +kernel
theorem dX12_clearBank_0 : decode cX12_clearBank 0 = .ok (.aload_n 0, 1) := by decide +kernel
theorem dX12_clearBank_1 : decode cX12_clearBank 1 = .ok (.getfield 20, 3) := by decide +kernel
theorem dX12_clearBank_4 : decode cX12_clearBank 4 = .ok (.aload_n 0, 1) := by decide +kernel
theorem dX12_clearBank_5 : decode cX12_clearBank 5 = .ok (.getfield 218, 3) := by decide +kernel
theorem dX12_clearBank_8 : decode cX12_clearBank 8 = .ok (.iconst 0, 1) := by decide +kernel
theorem dX12_clearBank_9 : decode cX12_clearBank 9 = .ok (.iastore, 1) := by decide +kernel
theorem dX12_clearBank_10 : decode cX12_clearBank 10 = .ok (.aload_n 0, 1) := by decide +kernel
theorem dX12_clearBank_11 : decode cX12_clearBank 11 = .ok (.getfield 24, 3) := by decide +kernel
theorem dX12_clearBank_14 : decode cX12_clearBank 14 = .ok (.aload_n 0, 1) := by decide +kernel
theorem dX12_clearBank_15 : decode cX12_clearBank 15 = .ok (.getfield 218, 3) := by decide +kernel
theorem dX12_clearBank_18 : decode cX12_clearBank 18 = .ok (.iconst 0, 1) := by decide +kernel
theorem dX12_clearBank_19 : decode cX12_clearBank 19 = .ok (.iastore, 1) := by decide +kernel
theorem dX12_clearBank_20 : decode cX12_clearBank 20 = .ok (.aload_n 0, 1) := by decide +kernel
theorem dX12_clearBank_21 : decode cX12_clearBank 21 = .ok (.getfield 27, 3) := by decide +kernel
theorem dX12_clearBank_24 : decode cX12_clearBank 24 = .ok (.aload_n 0, 1) := by decide +kernel
theorem dX12_clearBank_25 : decode cX12_clearBank 25 = .ok (.getfield 218, 3) := by decide +kernel
theorem dX12_clearBank_28 : decode cX12_clearBank 28 = .ok (.iconst 0, 1) := by decide +kernel
theorem dX12_clearBank_29 : decode cX12_clearBank 29 = .ok (.iastore, 1) := by decide +kernel
theorem dX12_clearBank_30 : decode cX12_clearBank 30 = .ok (.aload_n 0, 1) := by decide +kernel
theorem dX12_clearBank_31 : decode cX12_clearBank 31 = .ok (.getfield 30, 3) := by decide +kernel
theorem dX12_clearBank_34 : decode cX12_clearBank 34 = .ok (.aload_n 0, 1) := by decide +kernel
theorem dX12_clearBank_35 : decode cX12_clearBank 35 = .ok (.getfield 218, 3) := by decide +kernel
theorem dX12_clearBank_38 : decode cX12_clearBank 38 = .ok (.sipush 921, 3) := by decide +kernel
theorem dX12_clearBank_41 : decode cX12_clearBank 41 = .ok (.iastore, 1) := by decide +kernel
theorem dX12_clearBank_42 : decode cX12_clearBank 42 = .ok (.aload_n 0, 1) := by decide +kernel
theorem dX12_clearBank_43 : decode cX12_clearBank 43 = .ok (.getfield 51, 3) := by decide +kernel
theorem dX12_clearBank_46 : decode cX12_clearBank 46 = .ok (.aload_n 0, 1) := by decide +kernel
theorem dX12_clearBank_47 : decode cX12_clearBank 47 = .ok (.getfield 218, 3) := by decide +kernel
theorem dX12_clearBank_50 : decode cX12_clearBank 50 = .ok (.iconst 0, 1) := by decide +kernel
theorem dX12_clearBank_51 : decode cX12_clearBank 51 = .ok (.bastore, 1) := by decide +kernel
theorem dX12_clearBank_52 : decode cX12_clearBank 52 = .ok (.aload_n 0, 1) := by decide +kernel
theorem dX12_clearBank_53 : decode cX12_clearBank 53 = .ok (.sipush 600, 3) := by decide +kernel
theorem dX12_clearBank_56 : decode cX12_clearBank 56 = .ok (.aload_n 0, 1) := by decide +kernel
theorem dX12_clearBank_57 : decode cX12_clearBank 57 = .ok (.getfield 218, 3) := by decide +kernel
theorem dX12_clearBank_60 : decode cX12_clearBank 60 = .ok (.imul, 1) := by decide +kernel
theorem dX12_clearBank_61 : decode cX12_clearBank 61 = .ok (.putfield 221, 3) := by decide +kernel
theorem dX12_clearBank_64 : decode cX12_clearBank 64 = .ok (.return_, 1) := by decide +kernel
theorem dX12_town_0 : decode cX12_town 0 = .ok (.aload_n 0, 1) := by decide +kernel
theorem dX12_town_1 : decode cX12_town 1 = .ok (.iconst 0, 1) := by decide +kernel
theorem dX12_town_2 : decode cX12_town 2 = .ok (.putfield 137, 3) := by decide +kernel
theorem dX12_town_5 : decode cX12_town 5 = .ok (.aload_n 0, 1) := by decide +kernel
theorem dX12_town_6 : decode cX12_town 6 = .ok (.iconst (-1), 1) := by decide +kernel
theorem dX12_town_7 : decode cX12_town 7 = .ok (.putfield 16, 3) := by decide +kernel
theorem dX12_town_10 : decode cX12_town 10 = .ok (.aload_n 0, 1) := by decide +kernel
theorem dX12_town_11 : decode cX12_town 11 = .ok (.aload_n 0, 1) := by decide +kernel
theorem dX12_town_12 : decode cX12_town 12 = .ok (.getfield 224, 3) := by decide +kernel
theorem dX12_town_15 : decode cX12_town 15 = .ok (.putfield 134, 3) := by decide +kernel
theorem dX12_town_18 : decode cX12_town 18 = .ok (.iconst 0, 1) := by decide +kernel
theorem dX12_town_19 : decode cX12_town 19 = .ok (.istore_n 1, 1) := by decide +kernel
theorem dX12_town_20 : decode cX12_town 20 = .ok (.iload_n 1, 1) := by decide +kernel
theorem dX12_town_21 : decode cX12_town 21 = .ok (.aload_n 0, 1) := by decide +kernel
theorem dX12_town_22 : decode cX12_town 22 = .ok (.getfield 134, 3) := by decide +kernel
theorem dX12_town_25 : decode cX12_town 25 = .ok (.if_icmp .ge 21, 3) := by decide +kernel
theorem dX12_town_46 : decode cX12_town 46 = .ok (.aload_n 0, 1) := by decide +kernel
theorem dX12_town_47 : decode cX12_town 47 = .ok (.iconst 0, 1) := by decide +kernel
theorem dX12_town_48 : decode cX12_town 48 = .ok (.putfield 224, 3) := by decide +kernel
theorem dX12_town_51 : decode cX12_town 51 = .ok (.aload_n 0, 1) := by decide +kernel
theorem dX12_town_52 : decode cX12_town 52 = .ok (.iconst 0, 1) := by decide +kernel
theorem dX12_town_53 : decode cX12_town 53 = .ok (.putfield 170, 3) := by decide +kernel
theorem dX12_town_56 : decode cX12_town 56 = .ok (.aload_n 0, 1) := by decide +kernel
theorem dX12_town_57 : decode cX12_town 57 = .ok (.iconst 1, 1) := by decide +kernel
theorem dX12_town_58 : decode cX12_town 58 = .ok (.aload_n 0, 1) := by decide +kernel
theorem dX12_town_59 : decode cX12_town 59 = .ok (.getfield 227, 3) := by decide +kernel
theorem dX12_town_62 : decode cX12_town 62 = .ok (.isub, 1) := by decide +kernel
theorem dX12_town_63 : decode cX12_town 63 = .ok (.putfield 218, 3) := by decide +kernel
theorem dX12_town_66 : decode cX12_town 66 = .ok (.aload_n 0, 1) := by decide +kernel
theorem dX12_town_67 : decode cX12_town 67 = .ok (.invokevirtual 131, 3) := by decide +kernel
theorem dX12_town_70 : decode cX12_town 70 = .ok (.aload_n 0, 1) := by decide +kernel
theorem dX12_town_71 : decode cX12_town 71 = .ok (.invokevirtual 212, 3) := by decide +kernel
theorem dX12_town_74 : decode cX12_town 74 = .ok (.aload_n 0, 1) := by decide +kernel
theorem dX12_town_75 : decode cX12_town 75 = .ok (.invokevirtual 208, 3) := by decide +kernel
theorem dX12_town_78 : decode cX12_town 78 = .ok (.ifCond .eq 17, 3) := by decide +kernel
theorem dX12_town_95 : decode cX12_town 95 = .ok (.aload_n 0, 1) := by decide +kernel
theorem dX12_town_96 : decode cX12_town 96 = .ok (.invokevirtual 208, 3) := by decide +kernel
theorem dX12_town_99 : decode cX12_town 99 = .ok (.ifCond .ne 5, 3) := by decide +kernel
theorem dX12_town_104 : decode cX12_town 104 = .ok (.aload_n 0, 1) := by decide +kernel
theorem dX12_town_105 : decode cX12_town 105 = .ok (.aload_n 0, 1) := by decide +kernel
theorem dX12_town_106 : decode cX12_town 106 = .ok (.getfield 218, 3) := by decide +kernel
theorem dX12_town_109 : decode cX12_town 109 = .ok (.putfield 227, 3) := by decide +kernel
theorem dX12_town_112 : decode cX12_town 112 = .ok (.aload_n 0, 1) := by decide +kernel
theorem dX12_town_113 : decode cX12_town 113 = .ok (.iconst 0, 1) := by decide +kernel
theorem dX12_town_114 : decode cX12_town 114 = .ok (.putfield 233, 3) := by decide +kernel
theorem dX12_town_117 : decode cX12_town 117 = .ok (.aload_n 0, 1) := by decide +kernel
theorem dX12_town_118 : decode cX12_town 118 = .ok (.iconst 0, 1) := by decide +kernel
theorem dX12_town_119 : decode cX12_town 119 = .ok (.putfield 236, 3) := by decide +kernel
theorem dX12_town_122 : decode cX12_town 122 = .ok (.aload_n 0, 1) := by decide +kernel
theorem dX12_town_123 : decode cX12_town 123 = .ok (.iconst 0, 1) := by decide +kernel
theorem dX12_town_124 : decode cX12_town 124 = .ok (.putfield 239, 3) := by decide +kernel
theorem dX12_town_127 : decode cX12_town 127 = .ok (.iconst 0, 1) := by decide +kernel
theorem dX12_town_128 : decode cX12_town 128 = .ok (.istore_n 1, 1) := by decide +kernel
theorem dX12_town_129 : decode cX12_town 129 = .ok (.iload_n 1, 1) := by decide +kernel
theorem dX12_town_130 : decode cX12_town 130 = .ok (.bipush 8, 2) := by decide +kernel
theorem dX12_town_132 : decode cX12_town 132 = .ok (.if_icmp .ge 23, 3) := by decide +kernel
theorem dX12_town_155 : decode cX12_town 155 = .ok (.iconst 0, 1) := by decide +kernel
theorem dX12_town_156 : decode cX12_town 156 = .ok (.istore_n 1, 1) := by decide +kernel
theorem dX12_town_157 : decode cX12_town 157 = .ok (.iload_n 1, 1) := by decide +kernel
theorem dX12_town_158 : decode cX12_town 158 = .ok (.iconst 3, 1) := by decide +kernel
theorem dX12_town_159 : decode cX12_town 159 = .ok (.if_icmp .ge 16, 3) := by decide +kernel
theorem dX12_town_175 : decode cX12_town 175 = .ok (.aload_n 0, 1) := by decide +kernel
theorem dX12_town_176 : decode cX12_town 176 = .ok (.getfield 24, 3) := by decide +kernel
theorem dX12_town_179 : decode cX12_town 179 = .ok (.aload_n 0, 1) := by decide +kernel
theorem dX12_town_180 : decode cX12_town 180 = .ok (.getfield 227, 3) := by decide +kernel
theorem dX12_town_183 : decode cX12_town 183 = .ok (.iaload, 1) := by decide +kernel
theorem dX12_town_184 : decode cX12_town 184 = .ok (.ireturn, 1) := by decide +kernel
theorem dX12_town_162 : decode cX12_town 162 = .ok (.aload_n 0, 1) := by decide +kernel
theorem dX12_town_163 : decode cX12_town 163 = .ok (.getfield 113, 3) := by decide +kernel
theorem dX12_town_166 : decode cX12_town 166 = .ok (.iload_n 1, 1) := by decide +kernel
theorem dX12_town_167 : decode cX12_town 167 = .ok (.iconst (-1), 1) := by decide +kernel
theorem dX12_town_168 : decode cX12_town 168 = .ok (.iastore, 1) := by decide +kernel
theorem dX12_town_169 : decode cX12_town 169 = .ok (.iinc 1 1, 3) := by decide +kernel
theorem dX12_town_172 : decode cX12_town 172 = .ok (.goto (-15), 3) := by decide +kernel
theorem dX12_town_135 : decode cX12_town 135 = .ok (.aload_n 0, 1) := by decide +kernel
theorem dX12_town_136 : decode cX12_town 136 = .ok (.getfield 77, 3) := by decide +kernel
theorem dX12_town_139 : decode cX12_town 139 = .ok (.iload_n 1, 1) := by decide +kernel
theorem dX12_town_140 : decode cX12_town 140 = .ok (.iconst 0, 1) := by decide +kernel
theorem dX12_town_141 : decode cX12_town 141 = .ok (.bastore, 1) := by decide +kernel
theorem dX12_town_142 : decode cX12_town 142 = .ok (.aload_n 0, 1) := by decide +kernel
theorem dX12_town_143 : decode cX12_town 143 = .ok (.getfield 80, 3) := by decide +kernel
theorem dX12_town_146 : decode cX12_town 146 = .ok (.iload_n 1, 1) := by decide +kernel
theorem dX12_town_147 : decode cX12_town 147 = .ok (.iconst 0, 1) := by decide +kernel
theorem dX12_town_148 : decode cX12_town 148 = .ok (.iastore, 1) := by decide +kernel
theorem dX12_town_149 : decode cX12_town 149 = .ok (.iinc 1 1, 3) := by decide +kernel
theorem dX12_town_152 : decode cX12_town 152 = .ok (.goto (-23), 3) := by decide +kernel
theorem dX12_town_102 : decode cX12_town 102 = .ok (.iconst (-1), 1) := by decide +kernel
theorem dX12_town_103 : decode cX12_town 103 = .ok (.ireturn, 1) := by decide +kernel
theorem dX12_town_81 : decode cX12_town 81 = .ok (.aload_n 0, 1) := by decide +kernel
theorem dX12_town_82 : decode cX12_town 82 = .ok (.getfield 180, 3) := by decide +kernel
theorem dX12_town_85 : decode cX12_town 85 = .ok (.ifCond .eq 10, 3) := by decide +kernel
theorem dX12_town_88 : decode cX12_town 88 = .ok (.aload_n 0, 1) := by decide +kernel
theorem dX12_town_89 : decode cX12_town 89 = .ok (.invokevirtual 230, 3) := by decide +kernel
theorem dX12_town_92 : decode cX12_town 92 = .ok (.goto (-18), 3) := by decide +kernel
theorem dX12_town_28 : decode cX12_town 28 = .ok (.aload_n 0, 1) := by decide +kernel
theorem dX12_town_29 : decode cX12_town 29 = .ok (.getfield 13, 3) := by decide +kernel
theorem dX12_town_32 : decode cX12_town 32 = .ok (.iload_n 1, 1) := by decide +kernel
theorem dX12_town_33 : decode cX12_town 33 = .ok (.aload_n 0, 1) := by decide +kernel
theorem dX12_town_34 : decode cX12_town 34 = .ok (.getfield 7, 3) := by decide +kernel
theorem dX12_town_37 : decode cX12_town 37 = .ok (.iload_n 1, 1) := by decide +kernel
theorem dX12_town_38 : decode cX12_town 38 = .ok (.baload, 1) := by decide +kernel
theorem dX12_town_39 : decode cX12_town 39 = .ok (.bastore, 1) := by decide +kernel
theorem dX12_town_40 : decode cX12_town 40 = .ok (.iinc 1 1, 3) := by decide +kernel
theorem dX12_town_43 : decode cX12_town 43 = .ok (.goto (-23), 3) := by decide +kernel
/-! what stands in the bank that is being read -/
def RIx (a c d x y : Nat → Int32) (b : Nat) : Prop := ∀ l : Nat, (l : Int) < (a b).toInt → 600 * (b : Int) ≤ (c (8 * b + l)).toInt ∧ (c (8 * b + l)).toInt ≤ (d (8 * b + l)).toInt ∧ (d (8 * b + l)).toInt ≤ 600 * (b : Int) + 600 ∧ wfr x y (c (8 * b + l)).toInt.toNat (d (8 * b + l)).toInt.toNat
def PB (rb cd U : Int) (a c d x y : Nat → Int32) (b : Nat) : Prop := RIx a c d x y b ∧ (∀ l : Nat, (l : Int) < (a b).toInt → (d (8 * b + l)).toInt ≤ cd) ∧ 600 * rb ≤ cd ∧ cd ≤ 600 * rb + 9 * U
theorem PB.add {rb F cd U U' : Int} {a c d x y x' y' : Nat → Int32} {b i : Nat} {n1 w1 w2 : Int32} (h : PB rb F U a c d x y b) (hb : (b : Int) = rb) (ha : 0 ≤ (a b).toInt) (hi : i = 8 * b + (a b).toInt.toNat) (hn : n1.toInt = (a b).toInt + 1) (hw1 : w1.toInt = F) (hw2 : w2.toInt = cd) (ho : OUT F (600 * rb + 600) x y x' y') (hwf : wfr x' y' F.toNat cd.toNat) (hFc : F ≤ cd) (hcd : cd ≤ 600 * rb + 9 * U') (hU : U' ≤ 60) : PB rb cd U' (upd a b n1) (upd c i w1) (upd d i w2) x' y' b := by
  obtain ⟨h1, h2, h3, h4⟩ := h
  refine ⟨fun l hl => ?_, fun l hl => ?_, by omega, hcd⟩
  · rw [pk_us] at hl
    by_cases e : (l : Int) = (a b).toInt
    · have e2 : 8 * b + l = i := by omega
      rw [e2, pk_us, pk_us, hw1, hw2]
      exact ⟨by omega, hFc, by omega, hwf⟩
    · have hne : 8 * b + l ≠ i := by omega
      rw [pk_un hne, pk_un hne]
      obtain ⟨g1, g2, g3, g4⟩ := h1 l (by omega)
      have g5 := h2 l (by omega)
      exact ⟨g1, g2, g3, wfr_cong (fun k k1 k2 => ho k (Or.inl (by omega))) g4⟩
  · rw [pk_us] at hl
    by_cases e : (l : Int) = (a b).toInt
    · have e2 : 8 * b + l = i := by omega
      rw [e2, pk_us, hw2]
      exact Int.le_refl _
    · have hne : 8 * b + l ≠ i := by omega
      rw [pk_un hne]
      have g5 := h2 l (by omega)
      omega
theorem RIb.w19 {f : Nat → Nat → Int32} {b i : Nat} {x : Int32} (h : RIb f b) (hl : (f 12 b).toInt ≤ 8) (ho : (i : Int) < 8 * b ∨ 8 * (b : Int) + 8 ≤ i) : RIb (va_up f 19 (upd (f 19) i x)) b := fun l hl2 => by
  have e : upd (f 19) i x (8 * b + l) = f 19 (8 * b + l) := pk_un (by
    replace hl2 : (l : Int) < (f 12 b).toInt := hl2
    omega)
  show 600 * (b : Int) ≤ (upd (f 19) i x (8 * b + l)).toInt ∧ (upd (f 19) i x (8 * b + l)).toInt ≤ _ ∧ _ ∧ wfr _ _ (upd (f 19) i x (8 * b + l)).toInt.toNat _
  rw [e]
  exact h l hl2
theorem RIb.w20 {f : Nat → Nat → Int32} {b i : Nat} {x : Int32} (h : RIb f b) (hl : (f 12 b).toInt ≤ 8) (ho : (i : Int) < 8 * b ∨ 8 * (b : Int) + 8 ≤ i) : RIb (va_up f 20 (upd (f 20) i x)) b := fun l hl2 => by
  have e : upd (f 20) i x (8 * b + l) = f 20 (8 * b + l) := pk_un (by
    replace hl2 : (l : Int) < (f 12 b).toInt := hl2
    omega)
  show _ ∧ _ ≤ (upd (f 20) i x (8 * b + l)).toInt ∧ (upd (f 20) i x (8 * b + l)).toInt ≤ _ ∧ wfr _ _ _ (upd (f 20) i x (8 * b + l)).toInt.toNat
  rw [e]
  exact h l hl2
theorem RIb.w12 {f : Nat → Nat → Int32} {b i : Nat} {x : Int32} (h : RIb f b) (hi : b ≠ i) : RIb (va_up f 12 (upd (f 12) i x)) b := fun l hl2 => h l (by
  replace hl2 : (l : Int) < (upd (f 12) i x b).toInt := hl2
  rw [pk_un hi] at hl2
  exact hl2)
theorem WL.w12 {v : Nat → Int32} {f : Nat → Nat → Int32} {i : Nat} {x : Int32} (h : WL v f) (hi : Int32.toNatClampNeg (v 29) ≠ i) : WL v (va_up f 12 (upd (f 12) i x)) := fun k hk => by
  show _ ∧ _ < (upd (f 12) i x (Int32.toNatClampNeg (v 29))).toInt
  rw [pk_un hi]
  exact h k hk
set_option maxHeartbeats 4000000 in
set_option maxRecDepth 100000 in
theorem m_isFull (l : Launch) (G : va_G) (cy : Nat → ClassId) (sz : Nat) (mo : Nat) (h : Nat → Nat) (T : Int) (v : Nat → Int32) (nm : Int64) (f : Nat → Nat → Int32) (g : Nat → Nat → Int64)   (hv : MIv T v) (hf : MIf f) (hR : RI v f) (hL : WL v f) (htk : (v 8).toInt = 3) : Met l yX12_isFull (.code yX12_isFull cX12_isFull 1 (some .boolean) :: TBg) ({ frames := 2, cells := 0, slots := 0, locals := 128 }) (va_Pc [.ref mo] (En G cy (WMs cy mo h v nm f g) sz)) (va_Qi (fun (r : Int32) (_ : Unit) => ((r.toInt = 0 ∨ r.toInt = 1)) ∧ (r.toInt = 0 → (nm = 1953853029 → ¬ (f 11 (Int32.toNatClampNeg (v 30))).toInt = 14) ∧ (nm = 1819239275 → ¬ (f 12 (Int32.toNatClampNeg (v 30))).toInt = 8))) (fun _ _ => True) (va_A [] sz)) 0 0 (va_A [] sz) := by
  refine Met.ofW (cc := cX12_isFull) (maxL := 1) (ret := (some .boolean)) (by decide) rfl ?_
  intro p e s m args below meth c s₁ B hml hv9
  obtain ⟨rfl, hsz, hP, hK, hD0, hN⟩ := hv9
  have hx := B.exec
  have hb := B.bytes
  have hr := B.returns
  have hts := atoms_spec (ws := .code yX12_isFull cX12_isFull 1 (some .boolean) :: TBg) B.pre
  have ht : ∀ w ∈ TBg, w.before _ s = true := fun w h => hts w (List.mem_cons_of_mem _ h)
  have hown : s.vm.findClass RX12 = some m.cls := findClass_of_methodNamed B.named
  have hlocks := B.notSynchronized
  subst hsz
  generalize hAe : va_A [] s.heap.size = A at ⊢
  have hA : ∀ q : Nat, s.heap.size ≤ q → A q := fun q h => by rw [← hAe]; exact Or.inr h
  have hS : va_S A s.heap s.heap [] := va_S.rf
  have hl := lv_entry ([.ref mo]) (n := 1) (Nat.le_of_ble_eq_true rfl)
  rw [lg_entry_eq]
  generalize (lg_sl ([.ref mo]) ++ List.replicate (1 - (lg_sl ([.ref mo])).length) Slot.unset).toArray = ls at hl ⊢
  have hl : lv_has ls 1 [(0, .ref mo)] := hl
  have z0 : (0 : Int32).toInt = 0 := by decide
  have z1 : (1 : Int32).toInt = 1 := by decide
  have z2 : (8 : Int32).toInt = 8 := by decide
  have z3 : (14 : Int32).toInt = 14 := by decide
  refine lv_aload_n hx hb dX12_isFull_0 rfl (lv_at hl 0 rfl) ?_
  refine lv_ldc2 (v := 1953853029) hx hb hown (ht _ k_198) dX12_isFull_1 ?_
  have hFc := fr_new hS hA
  refine va_calli (va_runV (As := [.long (1953853029 : Int64)]) (rest := []) ⟨hx, hb, hml, hown, ht⟩ (m_isWord l G cy _ mo h T v nm f g (1953853029 : Int64)  hv hf hR hL) (cwV 1 ht (gv k_240 k_241 k_242 k_61 k_239) rfl rfl rfl (by decide +kernel) ⟨Nat.le_of_ble_eq_true rfl, Nat.le_of_ble_eq_true rfl⟩) ⟨En.blind, va_recv hK hP (ci := 12) (q0 := 0) rfl rfl, fun U hU hW => ⟨rfl, En.of hU hW hP hK hD0 hN⟩⟩ rfl rfl hl.1 rfl (lv_room (Nat.le_of_ble_eq_true rfl)) dX12_isFull_4 ⟨Nat.le_of_ble_eq_true rfl, Nat.le_of_ble_eq_true rfl⟩) hS (fun q _ h => hFc q h) hFc (fun r_u_1 u_1 t9 H locs ht9 hvm hw hB hz1 hk1 hS => ?_)
  have hP := fr_keep hP hk1
  obtain ⟨wu_1, xu_1_W⟩ := hw
  clear hFc hk1 hz1 hB
  have wu_1 : (r_u_1.toInt = 0 ∨ r_u_1.toInt = 1) ∧ (r_u_1.toInt = 0 ∨ (v 8).toInt = 3) := wu_1
  have xu_1_W : (r_u_1.toInt = 1 → nm = (1953853029 : Int64)) ∧ (r_u_1.toInt = 0 → (v 8).toInt = 3 → ¬ nm = (1953853029 : Int64)) := by
    have h9 : (r_u_1.toInt = 1 → nm = (1953853029 : Int64)) ∧ (r_u_1.toInt = 0 → (v 8).toInt = 3 → ¬ nm = (1953853029 : Int64)) := xu_1_W
    exact h9
  refine lv_if_eq (tgt := 30) hx hb dX12_isFull_7 (by decide) (fun c_2 => ?_) (fun c_2 => ?_)
  · have q_3 : r_u_1.toInt = (0 : Int32).toInt := (ow_eq _ _).mp c_2
    refine lv_aload_n hx hb dX12_isFull_30 rfl (lv_at hl 0 rfl) ?_
    refine lv_ldc2 (v := 1819239275) hx hb hown (ht _ k_200) dX12_isFull_31 ?_
    have hFc := fr_new hS hA
    refine va_calli (va_runV (As := [.long (1819239275 : Int64)]) (rest := []) ⟨hx, hb, hml, hown, ht⟩ (m_isWord l G cy _ mo h T v nm f g (1819239275 : Int64)  hv hf hR hL) (cwV 1 ht (gv k_240 k_241 k_242 k_61 k_239) rfl rfl rfl (by decide +kernel) ⟨Nat.le_of_ble_eq_true rfl, Nat.le_of_ble_eq_true rfl⟩) ⟨En.blind, va_recv hK hP (ci := 12) (q0 := 0) rfl rfl, fun U hU hW => ⟨rfl, En.of hU hW hP hK hD0 hN⟩⟩ rfl rfl hl.1 rfl (lv_room (Nat.le_of_ble_eq_true rfl)) dX12_isFull_34 ⟨Nat.le_of_ble_eq_true rfl, Nat.le_of_ble_eq_true rfl⟩) hS (fun q _ h => hFc q h) hFc (fun r_u_4 u_4 t9 H locs ht9 hvm hw hB hz1 hk1 hS => ?_)
    have hP := fr_keep hP hk1
    obtain ⟨wu_4, xu_4_W⟩ := hw
    clear hFc hk1 hz1 hB
    have wu_4 : (r_u_4.toInt = 0 ∨ r_u_4.toInt = 1) ∧ (r_u_4.toInt = 0 ∨ (v 8).toInt = 3) := wu_4
    have xu_4_W : (r_u_4.toInt = 1 → nm = (1819239275 : Int64)) ∧ (r_u_4.toInt = 0 → (v 8).toInt = 3 → ¬ nm = (1819239275 : Int64)) := by
      have h9 : (r_u_4.toInt = 1 → nm = (1819239275 : Int64)) ∧ (r_u_4.toInt = 0 → (v 8).toInt = 3 → ¬ nm = (1819239275 : Int64)) := xu_4_W
      exact h9
    refine lv_if_eq (tgt := 60) hx hb dX12_isFull_37 (by decide) (fun c_5 => ?_) (fun c_5 => ?_)
    · have q_6 : r_u_4.toInt = (0 : Int32).toInt := (ow_eq _ _).mp c_5
      refine lv_aload_n hx hb dX12_isFull_60 rfl (lv_at hl 0 rfl) ?_
      refine lv_ldc2 (v := 495924372852) hx hb hown (ht _ k_203) dX12_isFull_61 ?_
      have hFc := fr_new hS hA
      refine va_calli (va_runV (As := [.long (495924372852 : Int64)]) (rest := []) ⟨hx, hb, hml, hown, ht⟩ (m_isWord l G cy _ mo h T v nm f g (495924372852 : Int64)  hv hf hR hL) (cwV 1 ht (gv k_240 k_241 k_242 k_61 k_239) rfl rfl rfl (by decide +kernel) ⟨Nat.le_of_ble_eq_true rfl, Nat.le_of_ble_eq_true rfl⟩) ⟨En.blind, va_recv hK hP (ci := 12) (q0 := 0) rfl rfl, fun U hU hW => ⟨rfl, En.of hU hW hP hK hD0 hN⟩⟩ rfl rfl hl.1 rfl (lv_room (Nat.le_of_ble_eq_true rfl)) dX12_isFull_64 ⟨Nat.le_of_ble_eq_true rfl, Nat.le_of_ble_eq_true rfl⟩) hS (fun q _ h => hFc q h) hFc (fun r_u_7 u_7 t9 H locs ht9 hvm hw hB hz1 hk1 hS => ?_)
      have hP := fr_keep hP hk1
      obtain ⟨wu_7, xu_7_W⟩ := hw
      clear hFc hk1 hz1 hB
      have wu_7 : (r_u_7.toInt = 0 ∨ r_u_7.toInt = 1) ∧ (r_u_7.toInt = 0 ∨ (v 8).toInt = 3) := wu_7
      have xu_7_W : (r_u_7.toInt = 1 → nm = (495924372852 : Int64)) ∧ (r_u_7.toInt = 0 → (v 8).toInt = 3 → ¬ nm = (495924372852 : Int64)) := by
        have h9 : (r_u_7.toInt = 1 → nm = (495924372852 : Int64)) ∧ (r_u_7.toInt = 0 → (v 8).toInt = 3 → ¬ nm = (495924372852 : Int64)) := xu_7_W
        exact h9
      refine lv_if_eq (tgt := 82) hx hb dX12_isFull_67 (by decide) (fun c_8 => ?_) (fun c_8 => ?_)
      · have q_9 : r_u_7.toInt = (0 : Int32).toInt := (ow_eq _ _).mp c_8
        refine lv_iconst (v := 1) hx hb dX12_isFull_82 (by decide) ?_
        refine lv_goto (tgt := 87) hx hb dX12_isFull_83 (by decide) ?_
        refine W.widen (k := 0) (n := 0) (Nat.le_of_ble_eq_true rfl) (Nat.le_of_ble_eq_true rfl) ?_
        exact W.zret (v := 1) hx hb hr rfl (fun t ht9 hW => ⟨⟨1, (), rfl, ⟨(by omega), fun h => absurd h (by decide)⟩, trivial⟩, hS.F ht9⟩) hS.2.2 dX12_isFull_87
      · have q_10 : ¬ r_u_7.toInt = (0 : Int32).toInt := by have := (not_congr (ow_eq _ _)).mp c_8; omega
        refine lv_aload_n hx hb dX12_isFull_70 rfl (lv_at hl 0 rfl) ?_
        refine mg_21 hx hb ht hown hK hP dX12_isFull_71 ?_
        refine lv_aload_n hx hb dX12_isFull_74 rfl (lv_at hl 0 rfl) ?_
        refine mg_30 hx hb ht hown hK hP dX12_isFull_75 ?_
        have q_11 : 0 ≤ (v 30).toInt ∧ (v 30).toInt ≤ 1 := hv 30
        have q_12 : vp_in (v 30) 2 := vp_in_iff.mpr ⟨by omega, by omega⟩
        refine ml_21 hx hb hK hP q_12 dX12_isFull_78 ?_
        refine lv_topi (fun v_13 ev_13 => ?_)
        refine lv_if_eq (tgt := 86) hx hb dX12_isFull_79 (by decide) (fun c_14 => ?_) (fun c_14 => ?_)
        · have q_15 : v_13.toInt = (0 : Int32).toInt := (ow_eq _ _).mp c_14
          refine lv_iconst (v := 0) hx hb dX12_isFull_86 (by decide) ?_
          refine W.widen (k := 0) (n := 0) (Nat.le_of_ble_eq_true rfl) (Nat.le_of_ble_eq_true rfl) ?_
          exact W.zret (v := 0) hx hb hr rfl (fun t ht9 hW => ⟨⟨0, (), rfl, ⟨(by omega), fun _ => ⟨fun h => absurd h (xu_1_W.2 (by omega) (by omega)), fun h => absurd h (xu_4_W.2 (by omega) (by omega))⟩⟩, trivial⟩, hS.F ht9⟩) hS.2.2 dX12_isFull_87
        · have q_16 : ¬ v_13.toInt = (0 : Int32).toInt := by have := (not_congr (ow_eq _ _)).mp c_14; omega
          refine lv_iconst (v := 1) hx hb dX12_isFull_82 (by decide) ?_
          refine lv_goto (tgt := 87) hx hb dX12_isFull_83 (by decide) ?_
          refine W.widen (k := 0) (n := 0) (Nat.le_of_ble_eq_true rfl) (Nat.le_of_ble_eq_true rfl) ?_
          exact W.zret (v := 1) hx hb hr rfl (fun t ht9 hW => ⟨⟨1, (), rfl, ⟨(by omega), fun h => absurd h (by decide)⟩, trivial⟩, hS.F ht9⟩) hS.2.2 dX12_isFull_87
    · have q_17 : ¬ r_u_4.toInt = (0 : Int32).toInt := by have := (not_congr (ow_eq _ _)).mp c_5; omega
      refine lv_aload_n hx hb dX12_isFull_40 rfl (lv_at hl 0 rfl) ?_
      refine mg_12 hx hb ht hown hK hP dX12_isFull_41 ?_
      refine lv_aload_n hx hb dX12_isFull_44 rfl (lv_at hl 0 rfl) ?_
      refine mg_30 hx hb ht hown hK hP dX12_isFull_45 ?_
      have q_18 : 0 ≤ (v 30).toInt ∧ (v 30).toInt ≤ 1 := hv 30
      have q_19 : vp_in (v 30) 2 := vp_in_iff.mpr ⟨by omega, by omega⟩
      refine ml_12 hx hb hK hP q_19 dX12_isFull_48 ?_
      refine lv_topi (fun v_20 ev_20 => ?_)
      have q_21 : 0 ≤ v_20.toInt ∧ v_20.toInt ≤ 8 := by rw [ev_20]; exact MIf.rd 12 hf q_19
      have q_22 : v_20.toInt = ((f 12) (Int32.toNatClampNeg (v 30))).toInt := (congrArg Int32.toInt ev_20).trans (congrArg (fun z : Nat → Int32 => (z (Int32.toNatClampNeg (v 30))).toInt) (show f 12 = (f 12) from rfl))
      refine lv_bipush (v := 8) hx hb dX12_isFull_49 (by decide) ?_
      refine lv_icmp_ne (tgt := 58) hx hb dX12_isFull_51 (by decide) (fun c_23 => ?_) (fun c_23 => ?_)
      · have q_24 : ¬ v_20.toInt = (8 : Int32).toInt := by have := (not_congr (ow_eq _ _)).mp c_23; omega
        refine lv_iconst (v := 0) hx hb dX12_isFull_58 (by decide) ?_
        refine W.widen (k := 0) (n := 0) (Nat.le_of_ble_eq_true rfl) (Nat.le_of_ble_eq_true rfl) ?_
        exact W.zret (v := 0) hx hb hr rfl (fun t ht9 hW => ⟨⟨0, (), rfl, ⟨(by omega), fun _ => ⟨fun h => absurd h (xu_1_W.2 (by omega) (by omega)), fun _ => by omega⟩⟩, trivial⟩, hS.F ht9⟩) hS.2.2 dX12_isFull_59
      · have q_25 : v_20.toInt = (8 : Int32).toInt := (ow_eq _ _).mp c_23
        refine lv_iconst (v := 1) hx hb dX12_isFull_54 (by decide) ?_
        refine lv_goto (tgt := 59) hx hb dX12_isFull_55 (by decide) ?_
        refine W.widen (k := 0) (n := 0) (Nat.le_of_ble_eq_true rfl) (Nat.le_of_ble_eq_true rfl) ?_
        exact W.zret (v := 1) hx hb hr rfl (fun t ht9 hW => ⟨⟨1, (), rfl, ⟨(by omega), fun h => absurd h (by decide)⟩, trivial⟩, hS.F ht9⟩) hS.2.2 dX12_isFull_59
  · have q_26 : ¬ r_u_1.toInt = (0 : Int32).toInt := by have := (not_congr (ow_eq _ _)).mp c_2; omega
    refine lv_aload_n hx hb dX12_isFull_10 rfl (lv_at hl 0 rfl) ?_
    refine mg_11 hx hb ht hown hK hP dX12_isFull_11 ?_
    refine lv_aload_n hx hb dX12_isFull_14 rfl (lv_at hl 0 rfl) ?_
    refine mg_30 hx hb ht hown hK hP dX12_isFull_15 ?_
    have q_27 : 0 ≤ (v 30).toInt ∧ (v 30).toInt ≤ 1 := hv 30
    have q_28 : vp_in (v 30) 2 := vp_in_iff.mpr ⟨by omega, by omega⟩
    refine ml_11 hx hb hK hP q_28 dX12_isFull_18 ?_
    refine lv_topi (fun v_29 ev_29 => ?_)
    have q_30 : 0 ≤ v_29.toInt ∧ v_29.toInt ≤ 14 := by rw [ev_29]; exact MIf.rd 11 hf q_28
    have q_31 : v_29.toInt = ((f 11) (Int32.toNatClampNeg (v 30))).toInt := (congrArg Int32.toInt ev_29).trans (congrArg (fun z : Nat → Int32 => (z (Int32.toNatClampNeg (v 30))).toInt) (show f 11 = (f 11) from rfl))
    refine lv_bipush (v := 14) hx hb dX12_isFull_19 (by decide) ?_
    refine lv_icmp_ne (tgt := 28) hx hb dX12_isFull_21 (by decide) (fun c_32 => ?_) (fun c_32 => ?_)
    · have q_33 : ¬ v_29.toInt = (14 : Int32).toInt := by have := (not_congr (ow_eq _ _)).mp c_32; omega
      refine lv_iconst (v := 0) hx hb dX12_isFull_28 (by decide) ?_
      refine W.widen (k := 0) (n := 0) (Nat.le_of_ble_eq_true rfl) (Nat.le_of_ble_eq_true rfl) ?_
      exact W.zret (v := 0) hx hb hr rfl (fun t ht9 hW => ⟨⟨0, (), rfl, ⟨(by omega), fun _ => ⟨fun _ => by omega, fun h => absurd ((xu_1_W.1 (by omega)).symm.trans h) (by decide)⟩⟩, trivial⟩, hS.F ht9⟩) hS.2.2 dX12_isFull_29
    · have q_34 : v_29.toInt = (14 : Int32).toInt := (ow_eq _ _).mp c_32
      refine lv_iconst (v := 1) hx hb dX12_isFull_24 (by decide) ?_
      refine lv_goto (tgt := 29) hx hb dX12_isFull_25 (by decide) ?_
      refine W.widen (k := 0) (n := 0) (Nat.le_of_ble_eq_true rfl) (Nat.le_of_ble_eq_true rfl) ?_
      exact W.zret (v := 1) hx hb hr rfl (fun t ht9 hW => ⟨⟨1, (), rfl, ⟨(by omega), fun h => absurd h (by decide)⟩, trivial⟩, hS.F ht9⟩) hS.2.2 dX12_isFull_29
set_option maxHeartbeats 4000000 in
set_option maxRecDepth 100000 in
theorem m_readTune (l : Launch) (G : va_G) (cy : Nat → ClassId) (sz : Nat) (mo : Nat) (h : Nat → Nat) (T : Int) (v : Nat → Int32) (nm : Int64) (f : Nat → Nat → Int32) (g : Nat → Nat → Int64)   (hv : MIv T v) (hf : MIf f) (hR : RI v f) (hL : WL v f) (he : (v 7).toInt ≤ (v 3).toInt) (ht9 : (f 11 (Int32.toNatClampNeg (v 30))).toInt ≤ 13) : Met l yX12_readTune (.code yX12_readTune cX12_readTune 6 none :: TBg) ({ frames := 4, cells := 0, slots := 0, locals := 256 }) (va_Pc [.ref mo] (En G cy (WMs cy mo h v nm f g) sz)) (va_Qv (fun (u : (Nat → Int32) × Int64 × (Nat → Nat → Int32) × (Nat → Nat → Int64)) => MIv T u.1 ∧ MIf u.2.2.1 ∧ RI u.1 u.2.2.1 ∧ WL u.1 u.2.2.1 ∧ FV [4, 5, 6, 7, 8, 9] v u.1 ∧ FF [11, 15, 16, 17] f u.2.2.1 ∧ (((u.1 7).toInt ≤ (v 3).toInt ∧ ((u.1 4).toInt ≠ 0 ∨ (v 4).toInt = 0))) ∧ (0 ≤ mz (v 3).toInt (u.1 7).toInt (u.1 8).toInt ∧ mz (v 3).toInt (u.1 7).toInt (u.1 8).toInt ≤ mz (v 3).toInt (v 7).toInt (v 8).toInt)) (fun u t => Ex G (va_A (WMs cy mo h v nm f g) sz) (WMs cy mo h u.1 u.2.1 u.2.2.1 u.2.2.2) t) (va_A (WMs cy mo h v nm f g) sz)) 0 0 (va_A (WMs cy mo h v nm f g) sz) := by
  refine Met.ofW (cc := cX12_readTune) (maxL := 6) (ret := none) (by decide) rfl ?_
  intro p e s m args below meth c s₁ B hml hv9
  obtain ⟨rfl, hsz, hP, hK, hD0, hN⟩ := hv9
  have hx := B.exec
  have hb := B.bytes
  have hr := B.returns
  have hts := atoms_spec (ws := .code yX12_readTune cX12_readTune 6 none :: TBg) B.pre
  have ht : ∀ w ∈ TBg, w.before _ s = true := fun w h => hts w (List.mem_cons_of_mem _ h)
  have hown : s.vm.findClass RX12 = some m.cls := findClass_of_methodNamed B.named
  have hlocks := B.notSynchronized
  subst hsz
  have hD := hD0.self (sz := s.heap.size)
  generalize hAe : va_A (WMs cy mo h v nm f g) s.heap.size = A at hD ⊢
  have hA : ∀ q : Nat, s.heap.size ≤ q → A q := fun q h => by rw [← hAe]; exact Or.inr h
  have hS : va_S A s.heap s.heap [] := va_S.rf
  have hl := lv_entry ([.ref mo]) (n := 6) (Nat.le_of_ble_eq_true rfl)
  rw [lg_entry_eq]
  generalize (lg_sl ([.ref mo]) ++ List.replicate (6 - (lg_sl ([.ref mo])).length) Slot.unset).toArray = ls at hl ⊢
  have hl : lv_has ls 6 [(0, .ref mo)] := hl
  have z0 : (0 : Int32).toInt = 0 := by decide
  have z1 : (1 : Int32).toInt = 1 := by decide
  have z2 : (4 : Int32).toInt = 4 := by decide
  have z3 : (9 : Int32).toInt = 9 := by decide
  have z4 : (12 : Int32).toInt = 12 := by decide
  have z5 : (14 : Int32).toInt = 14 := by decide
  have z6 : (40 : Int32).toInt = 40 := by decide
  have z7 : (60 : Int32).toInt = 60 := by decide
  have hf_0 := hf
  have hV_0 : FV [4, 5, 6, 7, 8, 9] v v := FV.rf
  have hF_0 : FF [11, 15, 16, 17] f f := FF.rf
  have hmz0 : 0 ≤ mz (v 3).toInt (v 7).toInt (v 8).toInt := mz_nn he
  refine lv_bipush (v := 14) hx hb dX12_readTune_0 (by decide) ?_
  refine lv_aload_n hx hb dX12_readTune_2 rfl (lv_at hl 0 rfl) ?_
  refine mg_30 hx hb ht hown hK hP dX12_readTune_3 ?_
  have q_1 : 0 ≤ (v 30).toInt ∧ (v 30).toInt ≤ 1 := hv 30
  refine lv_imul hx hb dX12_readTune_6 ?_
  refine lv_topi (fun v_2 ev_2 => ?_)
  have q_3 : v_2.toInt = 14 * (v 30).toInt := ow_mul ev_2 (by decide) (by omega) (by omega)
  refine lv_aload_n hx hb dX12_readTune_7 rfl (lv_at hl 0 rfl) ?_
  refine mg_11 hx hb ht hown hK hP dX12_readTune_8 ?_
  refine lv_aload_n hx hb dX12_readTune_11 rfl (lv_at hl 0 rfl) ?_
  refine mg_30 hx hb ht hown hK hP dX12_readTune_12 ?_
  have q_4 : vp_in (v 30) 2 := vp_in_iff.mpr ⟨by omega, by omega⟩
  refine ml_11 hx hb hK hP q_4 dX12_readTune_15 ?_
  refine lv_topi (fun v_5 ev_5 => ?_)
  have q_6 : 0 ≤ v_5.toInt ∧ v_5.toInt ≤ 14 := by rw [ev_5]; exact MIf.rd 11 hf q_4
  have q_7 : v_5.toInt = ((f 11) (Int32.toNatClampNeg (v 30))).toInt := (congrArg Int32.toInt ev_5).trans (congrArg (fun z : Nat → Int32 => (z (Int32.toNatClampNeg (v 30))).toInt) (show f 11 = (f 11) from rfl))
  refine lv_iadd hx hb dX12_readTune_16 ?_
  refine lv_topi (fun v_8 ev_8 => ?_)
  have q_9 : v_8.toInt = v_2.toInt + v_5.toInt := ow_add ev_8 (by omega) (by omega)
  refine lv_istore_n (lv' := [(1, .int v_8), (0, .ref mo)]) hx hb dX12_readTune_17 rfl hl (by decide) rfl (fun ls hl => ?_)
  refine lv_aload_n hx hb dX12_readTune_18 rfl (lv_at hl 1 rfl) ?_
  refine lv_aload_n hx hb dX12_readTune_19 rfl (lv_at hl 1 rfl) ?_
  have hFc := fr_new hS hA
  refine va_calli (va_runV (As := []) (rest := [.ref mo]) ⟨hx, hb, hml, hown, ht⟩ (m_tuneHere l G cy _ mo h T v nm f g   hv hf hR hL) (cwV 0 ht (gv k_260 k_261 k_262 k_61 k_259) rfl rfl rfl (by decide +kernel) ⟨Nat.le_of_ble_eq_true rfl, Nat.le_of_ble_eq_true rfl⟩) ⟨En.blind, va_recv hK hP (ci := 12) (q0 := 0) rfl rfl, fun U hU hW => ⟨rfl, En.of hU hW hP hK hD hN⟩⟩ rfl rfl hl.1 rfl (lv_room (Nat.le_of_ble_eq_true rfl)) dX12_readTune_20 ⟨Nat.le_of_ble_eq_true rfl, Nat.le_of_ble_eq_true rfl⟩) hS (fun q _ h => hFc q h) hFc (fun r_u_10 u_10 t9 H locs ht9 hvm hw hB hz1 hk1 hS => ?_)
  have hP := fr_keep hP hk1
  have wu_10 := hw
  clear hFc hk1 hz1 hB hw
  refine W.widen (k := 0) (n := 0) (Nat.le_of_ble_eq_true rfl) (Nat.le_of_ble_eq_true rfl) ?_
  have jn_11 : ∀ (y0_11 : Int32) (H : Heap) (locs : List Loc) (ls : Array Slot), (0 ≤ y0_11.toInt ∧ y0_11.toInt ≤ 1) → va_P G vwCl (WMs cy mo h v nm f g) H → va_D A (WMs cy mo h v nm f g) → va_S A s.heap H locs → lv_has ls 6 [(1, .int v_8), (0, .ref mo)] → W p l e (headSpec (.code yX12_readTune cX12_readTune 6 none :: TBg) ({ frames := 4, cells := 0, slots := 0, locals := 256 })).room s m ([.ref mo] : List Value).toArray below meth c H locs 0 0 (MQ below (va_Qv (fun (u : (Nat → Int32) × Int64 × (Nat → Nat → Int32) × (Nat → Nat → Int64)) => MIv T u.1 ∧ MIf u.2.2.1 ∧ RI u.1 u.2.2.1 ∧ WL u.1 u.2.2.1 ∧ FV [4, 5, 6, 7, 8, 9] v u.1 ∧ FF [11, 15, 16, 17] f u.2.2.1 ∧ (((u.1 7).toInt ≤ (v 3).toInt ∧ ((u.1 4).toInt ≠ 0 ∨ (v 4).toInt = 0))) ∧ (0 ≤ mz (v 3).toInt (u.1 7).toInt (u.1 8).toInt ∧ mz (v 3).toInt (u.1 7).toInt (u.1 8).toInt ≤ mz (v 3).toInt (v 7).toInt (v 8).toInt)) (fun u t => Ex G A (WMs cy mo h u.1 u.2.1 u.2.2.1 u.2.2.2) t) A) ([.ref mo] : List Value).toArray s 0 0 A) (F0 m 31 ls [.int y0_11, .ref mo]) := by
    intro y0_11 H locs ls qf11_0 hP hD hS hl
    have hFc := fr_free hD hS hA
    refine va_calll (va_runV (As := [.int y0_11]) (rest := []) ⟨hx, hb, hml, hown, ht⟩ (m_fresh l G cy _ mo h T v nm f g y0_11  hv hf hR hL (by omega) (show (v 7).toInt ≤ (v 3).toInt from by omega)) (cwV 1 ht (gv k_284 k_285 k_286 k_61 k_283) rfl rfl rfl (by decide +kernel) ⟨Nat.le_of_ble_eq_true rfl, Nat.le_of_ble_eq_true rfl⟩) ⟨En.blind, va_recv hK hP (ci := 12) (q0 := 0) rfl rfl, fun U hU hW => ⟨rfl, En.of hU hW hP hK hD hN⟩⟩ rfl rfl hl.1 rfl (lv_room (Nat.le_of_ble_eq_true rfl)) dX12_readTune_31 ⟨Nat.le_of_ble_eq_true rfl, Nat.le_of_ble_eq_true rfl⟩) hS (fun q _ h => hFc q h) hFc (fun r_u_12 u_12 t9 H locs ht9 hvm hw hB hz1 hk1 hS => ?_)
    obtain ⟨v12, nm12⟩ := u_12
    obtain ⟨hP1, hD1⟩ := hB
    rw [ht9] at hP1
    obtain ⟨hv, xu_12V, wu_12, xu_12_M⟩ := hw
    dsimp only at hv xu_12V wu_12 xu_12_M
    have hP : va_P G vwCl (WMs cy mo h v12 nm12 f g) H := hP1
    have hD : va_D A (WMs cy mo h v12 nm12 f g) := hD1.weaken (fun _ _ _ h => hFc _ h)
    have hR : RI v12 f := RI.fv hR xu_12V (by decide)
    have hL : WL v12 f := WL.fv hL xu_12V (by decide) (by decide)
    have hV_0 := FV.tr hV_0 xu_12V (by decide)
    clear hFc hk1 hz1 hP1 hD1
    have wu_12 : ((v12 7).toInt ≤ (v 3).toInt ∧ ((v12 4).toInt ≠ 0 ∨ (v 4).toInt = 0)) := wu_12
    have xu_12_M : 0 ≤ mz (v 3).toInt (v12 7).toInt (v12 8).toInt ∧ mz (v 3).toInt (v12 7).toInt (v12 8).toInt ≤ mz (v 3).toInt (v 7).toInt (v 8).toInt := by
      have h9 : 0 ≤ mz (v 3).toInt (v12 7).toInt (v12 8).toInt ∧ mz (v 3).toInt (v12 7).toInt (v12 8).toInt ≤ mz (v 3).toInt (v 7).toInt (v 8).toInt := xu_12_M
      exact h9
    refine lv_lstore_n (lv' := [(2, .long r_u_12), (1, .int v_8), (0, .ref mo)]) hx hb dX12_readTune_34 rfl hl (by decide) rfl (fun ls hl => ?_)
    refine lv_aload_n hx hb dX12_readTune_35 rfl (lv_at hl 2 rfl) ?_
    refine lv_aload_n hx hb dX12_readTune_36 rfl (lv_at hl 2 rfl) ?_
    refine lv_ldc2 (v := 28518) hx hb hown (ht _ k_199) dX12_readTune_37 ?_
    have hFc := fr_new hS hA
    refine va_calli (va_runV (As := [.long (28518 : Int64)]) (rest := [.ref mo]) ⟨hx, hb, hml, hown, ht⟩ (m_isWord l G cy _ mo h T v12 nm12 f g (28518 : Int64)  hv hf hR hL) (cwV 1 ht (gv k_240 k_241 k_242 k_61 k_239) rfl rfl rfl (by decide +kernel) ⟨Nat.le_of_ble_eq_true rfl, Nat.le_of_ble_eq_true rfl⟩) ⟨En.blind, va_recv hK hP (ci := 12) (q0 := 0) rfl rfl, fun U hU hW => ⟨rfl, En.of hU hW hP hK hD hN⟩⟩ rfl rfl hl.1 rfl (lv_room (Nat.le_of_ble_eq_true rfl)) dX12_readTune_40 ⟨Nat.le_of_ble_eq_true rfl, Nat.le_of_ble_eq_true rfl⟩) hS (fun q _ h => hFc q h) hFc (fun r_u_13 u_13 t9 H locs ht9 hvm hw hB hz1 hk1 hS => ?_)
    have hP := fr_keep hP hk1
    obtain ⟨wu_13, xu_13_W⟩ := hw
    clear hFc hk1 hz1 hB
    have wu_13 : (r_u_13.toInt = 0 ∨ r_u_13.toInt = 1) ∧ (r_u_13.toInt = 0 ∨ (v12 8).toInt = 3) := wu_13
    have xu_13_W : (r_u_13.toInt = 1 → nm12 = (28518 : Int64)) ∧ (r_u_13.toInt = 0 → (v12 8).toInt = 3 → ¬ nm12 = (28518 : Int64)) := by
      have h9 : (r_u_13.toInt = 1 → nm12 = (28518 : Int64)) ∧ (r_u_13.toInt = 0 → (v12 8).toInt = 3 → ¬ nm12 = (28518 : Int64)) := xu_13_W
      exact h9
    have hFc := fr_free hD hS hA
    refine va_callv (va_runV (As := [.int r_u_13]) (rest := []) ⟨hx, hb, hml, hown, ht⟩ (m_must l G cy _ mo h T v12 nm12 f g r_u_13  hv hf hR hL (by omega) (show (v12 7).toInt ≤ (v12 3).toInt from by rw [(show v12 3 = (v 3) from (xu_12V 3 (by decide)))]; omega)) (cwV 1 ht (gv k_268 k_269 k_270 k_61 k_267) rfl rfl rfl (by decide +kernel) ⟨Nat.le_of_ble_eq_true rfl, Nat.le_of_ble_eq_true rfl⟩) ⟨En.blind, va_recv hK hP (ci := 12) (q0 := 0) rfl rfl, fun U hU hW => ⟨rfl, En.of hU hW hP hK hD hN⟩⟩ rfl rfl hl.1 rfl (lv_room (Nat.le_of_ble_eq_true rfl)) dX12_readTune_43 ⟨Nat.le_of_ble_eq_true rfl, Nat.le_of_ble_eq_true rfl⟩) hS (fun q _ h => hFc q h) hFc (fun u_14 t9 H locs ht9 hvm hw hB hz1 hk1 hS => ?_)
    obtain ⟨v14, nm14⟩ := u_14
    obtain ⟨hP1, hD1⟩ := hB
    rw [ht9] at hP1
    obtain ⟨hv, xu_14V, wu_14, xu_14_M⟩ := hw
    dsimp only at hv xu_14V wu_14 xu_14_M
    have hP : va_P G vwCl (WMs cy mo h v14 nm14 f g) H := hP1
    have hD : va_D A (WMs cy mo h v14 nm14 f g) := hD1.weaken (fun _ _ _ h => hFc _ h)
    have hR : RI v14 f := RI.fv hR xu_14V (by decide)
    have hL : WL v14 f := WL.fv hL xu_14V (by decide) (by decide)
    have hV_0 := FV.tr hV_0 xu_14V (by decide)
    clear hFc hk1 hz1 hP1 hD1
    have wu_14 : ((v14 7).toInt ≤ (v 3).toInt ∧ ((v14 4).toInt ≠ 0 ∨ (v12 4).toInt = 0)) := by
      have h9 : ((v14 7).toInt ≤ (v12 3).toInt ∧ ((v14 4).toInt ≠ 0 ∨ (v12 4).toInt = 0)) := wu_14
      rw [(show v12 3 = (v 3) from (xu_12V 3 (by decide)))] at h9
      exact h9
    have xu_14_M : 0 ≤ mz (v 3).toInt (v14 7).toInt (v14 8).toInt ∧ mz (v 3).toInt (v14 7).toInt (v14 8).toInt ≤ mz (v 3).toInt (v12 7).toInt (v12 8).toInt := by
      have h9 : 0 ≤ mz (v12 3).toInt (v14 7).toInt (v14 8).toInt ∧ mz (v12 3).toInt (v14 7).toInt (v14 8).toInt ≤ mz (v12 3).toInt (v12 7).toInt (v12 8).toInt := xu_14_M
      rw [(show v12 3 = (v 3) from (xu_12V 3 (by decide)))] at h9
      exact h9
    refine lv_aload_n hx hb dX12_readTune_46 rfl (lv_at hl 2 rfl) ?_
    refine mg_15 hx hb ht hown hK hP dX12_readTune_47 ?_
    refine lv_iload_n hx hb dX12_readTune_50 rfl (lv_at hl 1 rfl) ?_
    refine lv_iconst (v := 0) hx hb dX12_readTune_51 (by decide) ?_
    have q_15 : vp_in v_8 30 := vp_in_iff.mpr ⟨by omega, by omega⟩
    refine ms_15 hx hb hK hP hD hS q_15 dX12_readTune_52 (fun H locs hP hD hS => ?_)
    have hf := MIf.up 15 (i := (Int32.toNatClampNeg v_8)) hf (show 0 ≤ (0 : Int32).toInt ∧ (0 : Int32).toInt ≤ 12 from by omega)
    have hF_0 := FF.up hF_0 15 (upd (f 15) (Int32.toNatClampNeg v_8) 0) (by decide)
    have hL : WL v14 (va_up f 15 (upd (f 15) (Int32.toNatClampNeg v_8) 0)) := WL.upf 15 hL (by decide)
    have hR : RI v14 (va_up f 15 (upd (f 15) (Int32.toNatClampNeg v_8) 0)) := RI.up 15 hR (by decide)
    refine W.widen (k := 0) (n := 0) (Nat.le_of_ble_eq_true rfl) (Nat.le_of_ble_eq_true rfl) ?_
    have lp_16 : ∀ (N_16 : Nat) (v16 : Nat → Int32) (nm16 : Int64) (f16 : Nat → Nat → Int32) (g16 : Nat → Nat → Int64) (H : Heap) (locs : List Loc) (ls : Array Slot), MIv T v16 → MIf f16 → RI v16 f16 → WL v16 f16 → FV [4, 5, 6, 7, 8, 9] v14 v16 → FF [15, 16, 17] (va_up f 15 (upd (f 15) (Int32.toNatClampNeg v_8) 0)) f16 → ((v16 7).toInt ≤ (v 3).toInt ∧ ((v16 4).toInt ≠ 0 ∨ (v 4).toInt = 0) ∧ 0 ≤ mz (v 3).toInt (v16 7).toInt (v16 8).toInt ∧ mz (v 3).toInt (v16 7).toInt (v16 8).toInt ≤ mz (v 3).toInt (v 7).toInt (v 8).toInt) → (mz (v 3).toInt (v16 7).toInt (v16 8).toInt).toNat < N_16 → va_P G vwCl (WMs cy mo h v16 nm16 f16 g16) H → va_D A (WMs cy mo h v16 nm16 f16 g16) → va_S A s.heap H locs → lv_has ls 6 [(2, .long r_u_12), (1, .int v_8), (0, .ref mo)] → W p l e (headSpec (.code yX12_readTune cX12_readTune 6 none :: TBg) ({ frames := 4, cells := 0, slots := 0, locals := 256 })).room s m ([.ref mo] : List Value).toArray below meth c H locs 0 0 (MQ below (va_Qv (fun (u : (Nat → Int32) × Int64 × (Nat → Nat → Int32) × (Nat → Nat → Int64)) => MIv T u.1 ∧ MIf u.2.2.1 ∧ RI u.1 u.2.2.1 ∧ WL u.1 u.2.2.1 ∧ FV [4, 5, 6, 7, 8, 9] v u.1 ∧ FF [11, 15, 16, 17] f u.2.2.1 ∧ (((u.1 7).toInt ≤ (v 3).toInt ∧ ((u.1 4).toInt ≠ 0 ∨ (v 4).toInt = 0))) ∧ (0 ≤ mz (v 3).toInt (u.1 7).toInt (u.1 8).toInt ∧ mz (v 3).toInt (u.1 7).toInt (u.1 8).toInt ≤ mz (v 3).toInt (v 7).toInt (v 8).toInt)) (fun u t => Ex G A (WMs cy mo h u.1 u.2.1 u.2.2.1 u.2.2.2) t) A) ([.ref mo] : List Value).toArray s 0 0 A) (F0 m 53 ls []) := by
      intro N_16
      induction N_16 with
      | zero => intro v16 nm16 f16 g16 H locs ls hv hf hR hL hV_16 hF_16 qf16_0 hm hP hD hS hl; exact absurd hm (Nat.not_lt_zero _)
      | succ N_16 ih_16 =>
        intro v16 nm16 f16 g16 H locs ls hv hf hR hL hV_16 hF_16 qf16_0 hm hP hD hS hl
        have hV_0 := FV.tr hV_0 hV_16 (by decide)
        have hF_0 := FF.tr hF_0 hF_16 (by decide)
        have hW_16 := hV_16
        have hY_16 := hF_16
        refine lv_aload_n hx hb dX12_readTune_53 rfl (lv_at hl 2 rfl) ?_
        have hFc := fr_new hS hA
        refine va_calli (va_runV (As := []) (rest := []) ⟨hx, hb, hml, hown, ht⟩ (m_isGood l G cy _ mo h T v16 nm16 f16 g16   hv hf hR hL) (cwV 0 ht (gv k_224 k_225 k_226 k_61 k_223) rfl rfl rfl (by decide +kernel) ⟨Nat.le_of_ble_eq_true rfl, Nat.le_of_ble_eq_true rfl⟩) ⟨En.blind, va_recv hK hP (ci := 12) (q0 := 0) rfl rfl, fun U hU hW => ⟨rfl, En.of hU hW hP hK hD hN⟩⟩ rfl rfl hl.1 rfl (lv_room (Nat.le_of_ble_eq_true rfl)) dX12_readTune_54 ⟨Nat.le_of_ble_eq_true rfl, Nat.le_of_ble_eq_true rfl⟩) hS (fun q _ h => hFc q h) hFc (fun r_u_17 u_17 t9 H locs ht9 hvm hw hB hz1 hk1 hS => ?_)
        have hP := fr_keep hP hk1
        have wu_17 := hw
        clear hFc hk1 hz1 hB hw
        have wu_17 : (r_u_17.toInt = 0 ∨ r_u_17.toInt = 1) ∧ ((r_u_17.toInt = 1 ∧ (v16 4).toInt = 0) ∨ (r_u_17.toInt = 0 ∧ (v16 4).toInt ≠ 0)) := wu_17
        refine lv_if_eq (tgt := 167) hx hb dX12_readTune_57 (by decide) (fun c_18 => ?_) (fun c_18 => ?_)
        · have q_19 : r_u_17.toInt = (0 : Int32).toInt := (ow_eq _ _).mp c_18
          refine lv_aload_n hx hb dX12_readTune_167 rfl (lv_at hl 2 rfl) ?_
          refine mg_22 hx hb ht hown hK hP dX12_readTune_168 ?_
          refine lv_iload_n hx hb dX12_readTune_171 rfl (lv_at hl 1 rfl) ?_
          refine lv_lload_n hx hb dX12_readTune_172 rfl (lv_at hl 0 rfl) ?_
          have q_20 : vp_in v_8 28 := vp_in_iff.mpr ⟨by omega, by omega⟩
          refine ms_22 hx hb hK hP hD hS q_20 dX12_readTune_173 (fun H locs hP hD hS => ?_)
          refine lv_aload_n hx hb dX12_readTune_174 rfl (lv_at hl 2 rfl) ?_
          refine mg_11 hx hb ht hown hK hP dX12_readTune_175 ?_
          refine lv_aload_n hx hb dX12_readTune_178 rfl (lv_at hl 2 rfl) ?_
          refine mg_30 hx hb ht hown hK hP dX12_readTune_179 ?_
          refine ow_top (v 30) ((hV_16 30 (by decide)).trans ((xu_14V 30 (by decide)).trans (xu_12V 30 (by decide)))) ?_
          have q_21 : 0 ≤ (v 30).toInt ∧ (v 30).toInt ≤ 1 := by have h9 : v16 30 = (v 30) := ((hV_16 30 (by decide)).trans ((xu_14V 30 (by decide)).trans (xu_12V 30 (by decide)))); rw [← h9]; exact hv 30
          refine lv_dup2_11 hx hb dX12_readTune_182 rfl rfl ?_
          have q_22 : vp_in (v 30) 2 := vp_in_iff.mpr ⟨by omega, by omega⟩
          refine ml_11 hx hb hK hP q_22 dX12_readTune_183 ?_
          refine lv_topi (fun v_23 ev_23 => ?_)
          have q_24 : 0 ≤ v_23.toInt ∧ v_23.toInt ≤ 14 := by rw [ev_23]; exact MIf.rd 11 hf q_22
          have q_25 : v_23.toInt = ((f 11) (Int32.toNatClampNeg (v 30))).toInt := (congrArg Int32.toInt ev_23).trans (congrArg (fun z : Nat → Int32 => (z (Int32.toNatClampNeg (v 30))).toInt) (show f16 11 = (f 11) from (hF_16 11 (by decide))))
          refine lv_iconst (v := 1) hx hb dX12_readTune_184 (by decide) ?_
          refine lv_iadd hx hb dX12_readTune_185 ?_
          refine lv_topi (fun v_26 ev_26 => ?_)
          have q_27 : v_26.toInt = v_23.toInt + (1 : Int32).toInt := ow_add ev_26 (by omega) (by omega)
          have q_28 : vp_in (v 30) 2 := vp_in_iff.mpr ⟨by omega, by omega⟩
          refine ms_11 hx hb hK hP hD hS q_28 dX12_readTune_186 (fun H locs hP hD hS => ?_)
          have hf := MIf.up 11 (i := (Int32.toNatClampNeg (v 30))) hf (show 0 ≤ v_26.toInt ∧ v_26.toInt ≤ 14 from by omega)
          have hF_0 := FF.up hF_0 11 (upd (f16 11) (Int32.toNatClampNeg (v 30)) v_26) (by decide)
          have hL : WL v16 (va_up f16 11 (upd (f16 11) (Int32.toNatClampNeg (v 30)) v_26)) := WL.upf 11 hL (by decide)
          have hR : RI v16 (va_up f16 11 (upd (f16 11) (Int32.toNatClampNeg (v 30)) v_26)) := RI.up 11 hR (by decide)
          refine W.widen (k := 0) (n := 0) (Nat.le_of_ble_eq_true rfl) (Nat.le_of_ble_eq_true rfl) ?_
          exact W.vret hx hb hr (fun t ht9 hW => ⟨⟨(v16, nm16, (va_up f16 11 (upd (f16 11) (Int32.toNatClampNeg (v 30)) v_26)), (va_up g16 22 (vp_updL (g16 22) (Int32.toNatClampNeg v_8) r_u_12))), rfl, ⟨hv, hf, hR, hL, hV_0, hF_0, (show (v16 7).toInt ≤ (v 3).toInt ∧ ((v16 4).toInt ≠ 0 ∨ (v 4).toInt = 0) from by first | omega | (subst_vars; first | rfl | omega)), (show 0 ≤ mz (v 3).toInt (v16 7).toInt (v16 8).toInt ∧ mz (v 3).toInt (v16 7).toInt (v16 8).toInt ≤ mz (v 3).toInt (v 7).toInt (v 8).toInt from by omega)⟩, ⟨by rw [ht9]; exact hP, hD⟩⟩, hS.F ht9⟩) hS.2.2 dX12_readTune_187
        · have q_29 : ¬ r_u_17.toInt = (0 : Int32).toInt := by have := (not_congr (ow_eq _ _)).mp c_18; omega
          refine lv_aload_n hx hb dX12_readTune_60 rfl (lv_at hl 2 rfl) ?_
          refine mg_15 hx hb ht hown hK hP dX12_readTune_61 ?_
          refine lv_iload_n hx hb dX12_readTune_64 rfl (lv_at hl 1 rfl) ?_
          have q_30 : vp_in v_8 30 := vp_in_iff.mpr ⟨by omega, by omega⟩
          refine ml_15 hx hb hK hP q_30 dX12_readTune_65 ?_
          refine lv_topi (fun v_31 ev_31 => ?_)
          have q_32 : 0 ≤ v_31.toInt ∧ v_31.toInt ≤ 12 := by rw [ev_31]; exact MIf.rd 15 hf q_30
          have q_33 : v_31.toInt = ((f16 15) (Int32.toNatClampNeg v_8)).toInt := (congrArg Int32.toInt ev_31).trans (congrArg (fun z : Nat → Int32 => (z (Int32.toNatClampNeg v_8)).toInt) (show f16 15 = (f16 15) from rfl))
          refine lv_if_eq (tgt := 77) hx hb dX12_readTune_66 (by decide) (fun c_34 => ?_) (fun c_34 => ?_)
          · have q_35 : v_31.toInt = (0 : Int32).toInt := (ow_eq _ _).mp c_34
            refine lv_aload_n hx hb dX12_readTune_77 rfl (lv_at hl 2 rfl) ?_
            refine mg_15 hx hb ht hown hK hP dX12_readTune_78 ?_
            refine lv_iload_n hx hb dX12_readTune_81 rfl (lv_at hl 1 rfl) ?_
            refine ml_15 hx hb hK hP q_30 dX12_readTune_82 ?_
            refine ow_top v_31 ev_31.symm ?_
            refine lv_bipush (v := 12) hx hb dX12_readTune_83 (by decide) ?_
            refine lv_icmp_ne (tgt := 92) hx hb dX12_readTune_85 (by decide) (fun c_36 => ?_) (fun c_36 => ?_)
            · have q_37 : ¬ v_31.toInt = (12 : Int32).toInt := by have := (not_congr (ow_eq _ _)).mp c_36; omega
              refine lv_aload_n hx hb dX12_readTune_92 rfl (lv_at hl 2 rfl) ?_
              refine lv_iconst (v := 0) hx hb dX12_readTune_93 (by decide) ?_
              refine lv_bipush (v := 60) hx hb dX12_readTune_94 (by decide) ?_
              have hFc := fr_free hD hS hA
              refine va_calli (va_runV (As := [.int 0, .int 60]) (rest := []) ⟨hx, hb, hml, hown, ht⟩ (m_numeral l G cy _ mo h T v16 nm16 f16 g16 (0) (60)  hv hf hR hL (show (0 : Int32).toInt ≤ (60 : Int32).toInt from by omega) (show (v16 7).toInt ≤ (v16 3).toInt from by rw [(show v16 3 = (v 3) from ((hV_16 3 (by decide)).trans ((xu_14V 3 (by decide)).trans (xu_12V 3 (by decide)))))]; omega)) (cwV 2 ht (gv k_288 k_289 k_290 k_61 k_287) rfl rfl rfl (by decide +kernel) ⟨Nat.le_of_ble_eq_true rfl, Nat.le_of_ble_eq_true rfl⟩) ⟨En.blind, va_recv hK hP (ci := 12) (q0 := 0) rfl rfl, fun U hU hW => ⟨rfl, En.of hU hW hP hK hD hN⟩⟩ rfl rfl hl.1 rfl (lv_room (Nat.le_of_ble_eq_true rfl)) dX12_readTune_96 ⟨Nat.le_of_ble_eq_true rfl, Nat.le_of_ble_eq_true rfl⟩) hS (fun q _ h => hFc q h) hFc (fun r_u_38 u_38 t9 H locs ht9 hvm hw hB hz1 hk1 hS => ?_)
              obtain ⟨v38, nm38⟩ := u_38
              obtain ⟨hP1, hD1⟩ := hB
              rw [ht9] at hP1
              obtain ⟨hv, xu_38V, wu_38, xu_38_M⟩ := hw
              dsimp only at hv xu_38V wu_38 xu_38_M
              have hP : va_P G vwCl (WMs cy mo h v38 nm38 f16 g16) H := hP1
              have hD : va_D A (WMs cy mo h v38 nm38 f16 g16) := hD1.weaken (fun _ _ _ h => hFc _ h)
              have hR : RI v38 f16 := RI.fv hR xu_38V (by decide)
              have hL : WL v38 f16 := WL.fv hL xu_38V (by decide) (by decide)
              have hV_0 := FV.tr hV_0 xu_38V (by decide)
              have hW_16 := FV.tr hW_16 xu_38V (by decide)
              clear hFc hk1 hz1 hP1 hD1
              have wu_38 : ((0 : Int32).toInt ≤ r_u_38.toInt ∧ r_u_38.toInt ≤ (60 : Int32).toInt ∧ (v38 7).toInt ≤ (v 3).toInt ∧ ((v38 4).toInt ≠ 0 ∨ ((v16 4).toInt = 0 ∧ (v16 8).toInt = 4))) := by
                have h9 : ((0 : Int32).toInt ≤ r_u_38.toInt ∧ r_u_38.toInt ≤ (60 : Int32).toInt ∧ (v38 7).toInt ≤ (v16 3).toInt ∧ ((v38 4).toInt ≠ 0 ∨ ((v16 4).toInt = 0 ∧ (v16 8).toInt = 4))) := wu_38
                rw [(show v16 3 = (v 3) from ((hV_16 3 (by decide)).trans ((xu_14V 3 (by decide)).trans (xu_12V 3 (by decide)))))] at h9
                exact h9
              have xu_38_M : 0 ≤ mz (v 3).toInt (v38 7).toInt (v38 8).toInt ∧ mz (v 3).toInt (v38 7).toInt (v38 8).toInt ≤ mz (v 3).toInt (v16 7).toInt (v16 8).toInt ∧ ((v38 4).toInt ≠ 0 ∨ mz (v 3).toInt (v38 7).toInt (v38 8).toInt < mz (v 3).toInt (v16 7).toInt (v16 8).toInt) := by
                have h9 : 0 ≤ mz (v16 3).toInt (v38 7).toInt (v38 8).toInt ∧ mz (v16 3).toInt (v38 7).toInt (v38 8).toInt ≤ mz (v16 3).toInt (v16 7).toInt (v16 8).toInt ∧ ((v38 4).toInt ≠ 0 ∨ mz (v16 3).toInt (v38 7).toInt (v38 8).toInt < mz (v16 3).toInt (v16 7).toInt (v16 8).toInt) := xu_38_M
                rw [(show v16 3 = (v 3) from ((hV_16 3 (by decide)).trans ((xu_14V 3 (by decide)).trans (xu_12V 3 (by decide)))))] at h9
                exact h9
              refine lv_istore (lv' := [(4, .int r_u_38), (2, .long r_u_12), (1, .int v_8), (0, .ref mo)]) hx hb dX12_readTune_99 hl (by decide) rfl (fun ls hl => ?_)
              refine lv_aload_n hx hb dX12_readTune_101 rfl (lv_at hl 3 rfl) ?_
              refine lv_iconst (v := 1) hx hb dX12_readTune_102 (by decide) ?_
              refine lv_bipush (v := 9) hx hb dX12_readTune_103 (by decide) ?_
              have hFc := fr_free hD hS hA
              refine va_calli (va_runV (As := [.int 1, .int 9]) (rest := []) ⟨hx, hb, hml, hown, ht⟩ (m_numeral l G cy _ mo h T v38 nm38 f16 g16 (1) (9)  hv hf hR hL (show (1 : Int32).toInt ≤ (9 : Int32).toInt from by omega) (show (v38 7).toInt ≤ (v38 3).toInt from by rw [(show v38 3 = (v 3) from ((xu_38V 3 (by decide)).trans ((hV_16 3 (by decide)).trans ((xu_14V 3 (by decide)).trans (xu_12V 3 (by decide))))))]; omega)) (cwV 2 ht (gv k_288 k_289 k_290 k_61 k_287) rfl rfl rfl (by decide +kernel) ⟨Nat.le_of_ble_eq_true rfl, Nat.le_of_ble_eq_true rfl⟩) ⟨En.blind, va_recv hK hP (ci := 12) (q0 := 0) rfl rfl, fun U hU hW => ⟨rfl, En.of hU hW hP hK hD hN⟩⟩ rfl rfl hl.1 rfl (lv_room (Nat.le_of_ble_eq_true rfl)) dX12_readTune_105 ⟨Nat.le_of_ble_eq_true rfl, Nat.le_of_ble_eq_true rfl⟩) hS (fun q _ h => hFc q h) hFc (fun r_u_39 u_39 t9 H locs ht9 hvm hw hB hz1 hk1 hS => ?_)
              obtain ⟨v39, nm39⟩ := u_39
              obtain ⟨hP1, hD1⟩ := hB
              rw [ht9] at hP1
              obtain ⟨hv, xu_39V, wu_39, xu_39_M⟩ := hw
              dsimp only at hv xu_39V wu_39 xu_39_M
              have hP : va_P G vwCl (WMs cy mo h v39 nm39 f16 g16) H := hP1
              have hD : va_D A (WMs cy mo h v39 nm39 f16 g16) := hD1.weaken (fun _ _ _ h => hFc _ h)
              have hR : RI v39 f16 := RI.fv hR xu_39V (by decide)
              have hL : WL v39 f16 := WL.fv hL xu_39V (by decide) (by decide)
              have hV_0 := FV.tr hV_0 xu_39V (by decide)
              have hW_16 := FV.tr hW_16 xu_39V (by decide)
              clear hFc hk1 hz1 hP1 hD1
              have wu_39 : ((1 : Int32).toInt ≤ r_u_39.toInt ∧ r_u_39.toInt ≤ (9 : Int32).toInt ∧ (v39 7).toInt ≤ (v 3).toInt ∧ ((v39 4).toInt ≠ 0 ∨ ((v38 4).toInt = 0 ∧ (v38 8).toInt = 4))) := by
                have h9 : ((1 : Int32).toInt ≤ r_u_39.toInt ∧ r_u_39.toInt ≤ (9 : Int32).toInt ∧ (v39 7).toInt ≤ (v38 3).toInt ∧ ((v39 4).toInt ≠ 0 ∨ ((v38 4).toInt = 0 ∧ (v38 8).toInt = 4))) := wu_39
                rw [(show v38 3 = (v 3) from ((xu_38V 3 (by decide)).trans ((hV_16 3 (by decide)).trans ((xu_14V 3 (by decide)).trans (xu_12V 3 (by decide))))))] at h9
                exact h9
              have xu_39_M : 0 ≤ mz (v 3).toInt (v39 7).toInt (v39 8).toInt ∧ mz (v 3).toInt (v39 7).toInt (v39 8).toInt ≤ mz (v 3).toInt (v38 7).toInt (v38 8).toInt ∧ ((v39 4).toInt ≠ 0 ∨ mz (v 3).toInt (v39 7).toInt (v39 8).toInt < mz (v 3).toInt (v38 7).toInt (v38 8).toInt) := by
                have h9 : 0 ≤ mz (v38 3).toInt (v39 7).toInt (v39 8).toInt ∧ mz (v38 3).toInt (v39 7).toInt (v39 8).toInt ≤ mz (v38 3).toInt (v38 7).toInt (v38 8).toInt ∧ ((v39 4).toInt ≠ 0 ∨ mz (v38 3).toInt (v39 7).toInt (v39 8).toInt < mz (v38 3).toInt (v38 7).toInt (v38 8).toInt) := xu_39_M
                rw [(show v38 3 = (v 3) from ((xu_38V 3 (by decide)).trans ((hV_16 3 (by decide)).trans ((xu_14V 3 (by decide)).trans (xu_12V 3 (by decide))))))] at h9
                exact h9
              refine lv_istore (lv' := [(5, .int r_u_39), (4, .int r_u_38), (2, .long r_u_12), (1, .int v_8), (0, .ref mo)]) hx hb dX12_readTune_108 hl (by decide) rfl (fun ls hl => ?_)
              refine lv_aload_n hx hb dX12_readTune_110 rfl (lv_at hl 4 rfl) ?_
              have hFc := fr_new hS hA
              refine va_calli (va_runV (As := []) (rest := []) ⟨hx, hb, hml, hown, ht⟩ (m_isGood l G cy _ mo h T v39 nm39 f16 g16   hv hf hR hL) (cwV 0 ht (gv k_224 k_225 k_226 k_61 k_223) rfl rfl rfl (by decide +kernel) ⟨Nat.le_of_ble_eq_true rfl, Nat.le_of_ble_eq_true rfl⟩) ⟨En.blind, va_recv hK hP (ci := 12) (q0 := 0) rfl rfl, fun U hU hW => ⟨rfl, En.of hU hW hP hK hD hN⟩⟩ rfl rfl hl.1 rfl (lv_room (Nat.le_of_ble_eq_true rfl)) dX12_readTune_111 ⟨Nat.le_of_ble_eq_true rfl, Nat.le_of_ble_eq_true rfl⟩) hS (fun q _ h => hFc q h) hFc (fun r_u_40 u_40 t9 H locs ht9 hvm hw hB hz1 hk1 hS => ?_)
              have hP := fr_keep hP hk1
              have wu_40 := hw
              clear hFc hk1 hz1 hB hw
              have wu_40 : (r_u_40.toInt = 0 ∨ r_u_40.toInt = 1) ∧ ((r_u_40.toInt = 1 ∧ (v39 4).toInt = 0) ∨ (r_u_40.toInt = 0 ∧ (v39 4).toInt ≠ 0)) := wu_40
              refine lv_if_ne (tgt := 118) hx hb dX12_readTune_114 (by decide) (fun c_41 => ?_) (fun c_41 => ?_)
              · have q_42 : ¬ r_u_40.toInt = (0 : Int32).toInt := by have := (not_congr (ow_eq _ _)).mp c_41; omega
                refine lv_aload_n hx hb dX12_readTune_118 rfl (lv_at hl 4 rfl) ?_
                refine mg_16 hx hb ht hown hK hP dX12_readTune_119 ?_
                refine lv_bipush (v := 40) hx hb dX12_readTune_122 (by decide) ?_
                refine lv_iload_n hx hb dX12_readTune_124 rfl (lv_at hl 3 rfl) ?_
                refine lv_imul hx hb dX12_readTune_125 ?_
                refine lv_topi (fun v_43 ev_43 => ?_)
                have q_44 : v_43.toInt = 40 * v_8.toInt := ow_mul ev_43 (by decide) (by omega) (by omega)
                refine lv_aload_n hx hb dX12_readTune_126 rfl (lv_at hl 4 rfl) ?_
                refine mg_15 hx hb ht hown hK hP dX12_readTune_127 ?_
                refine lv_iload_n hx hb dX12_readTune_130 rfl (lv_at hl 3 rfl) ?_
                have q_45 : vp_in v_8 30 := vp_in_iff.mpr ⟨by omega, by omega⟩
                refine ml_15 hx hb hK hP q_45 dX12_readTune_131 ?_
                refine lv_topi (fun v_46 ev_46 => ?_)
                have q_47 : 0 ≤ v_46.toInt ∧ v_46.toInt ≤ 12 := by rw [ev_46]; exact MIf.rd 15 hf q_45
                have q_48 : v_46.toInt = ((f16 15) (Int32.toNatClampNeg v_8)).toInt := (congrArg Int32.toInt ev_46).trans (congrArg (fun z : Nat → Int32 => (z (Int32.toNatClampNeg v_8)).toInt) (show f16 15 = (f16 15) from rfl))
                refine lv_iadd hx hb dX12_readTune_132 ?_
                refine lv_topi (fun v_49 ev_49 => ?_)
                have q_50 : v_49.toInt = v_43.toInt + v_46.toInt := ow_add ev_49 (by omega) (by omega)
                refine lv_iload hx hb dX12_readTune_133 (lv_at hl 1 rfl) ?_
                have q_51 : vp_in v_49 1200 := vp_in_iff.mpr ⟨by omega, by omega⟩
                refine ms_16 hx hb hK hP hD hS q_51 dX12_readTune_135 (fun H locs hP hD hS => ?_)
                have hf := MIf.up 16 (i := (Int32.toNatClampNeg v_49)) hf (ow_any r_u_38)
                have hF_0 := FF.up hF_0 16 (upd (f16 16) (Int32.toNatClampNeg v_49) r_u_38) (by decide)
                have hY_16 := FF.up hY_16 16 (upd (f16 16) (Int32.toNatClampNeg v_49) r_u_38) (by decide)
                have hL : WL v39 (va_up f16 16 (upd (f16 16) (Int32.toNatClampNeg v_49) r_u_38)) := WL.upf 16 hL (by decide)
                have hR : RI v39 (va_up f16 16 (upd (f16 16) (Int32.toNatClampNeg v_49) r_u_38)) := RI.up 16 hR (by decide)
                refine lv_aload_n hx hb dX12_readTune_136 rfl (lv_at hl 4 rfl) ?_
                refine mg_17 hx hb ht hown hK hP dX12_readTune_137 ?_
                refine lv_bipush (v := 40) hx hb dX12_readTune_140 (by decide) ?_
                refine lv_iload_n hx hb dX12_readTune_142 rfl (lv_at hl 3 rfl) ?_
                refine lv_imul hx hb dX12_readTune_143 ?_
                refine lv_topi (fun v_52 ev_52 => ?_)
                have q_53 : v_52.toInt = 40 * v_8.toInt := ow_mul ev_52 (by decide) (by omega) (by omega)
                refine lv_aload_n hx hb dX12_readTune_144 rfl (lv_at hl 4 rfl) ?_
                refine mg_15 hx hb ht hown hK hP dX12_readTune_145 ?_
                refine lv_iload_n hx hb dX12_readTune_148 rfl (lv_at hl 3 rfl) ?_
                have q_54 : vp_in v_8 30 := vp_in_iff.mpr ⟨by omega, by omega⟩
                refine ml_15 hx hb hK hP q_54 dX12_readTune_149 ?_
                refine lv_topi (fun v_55 ev_55 => ?_)
                have q_56 : 0 ≤ v_55.toInt ∧ v_55.toInt ≤ 12 := by rw [ev_55]; exact MIf.rd 15 hf q_54
                have q_57 : v_55.toInt = ((f16 15) (Int32.toNatClampNeg v_8)).toInt := (congrArg Int32.toInt ev_55).trans (congrArg (fun z : Nat → Int32 => (z (Int32.toNatClampNeg v_8)).toInt) (show (va_up f16 16 (upd (f16 16) (Int32.toNatClampNeg v_49) r_u_38)) 15 = (f16 15) from rfl))
                refine lv_iadd hx hb dX12_readTune_150 ?_
                refine lv_topi (fun v_58 ev_58 => ?_)
                have q_59 : v_58.toInt = v_52.toInt + v_55.toInt := ow_add ev_58 (by omega) (by omega)
                refine lv_iload hx hb dX12_readTune_151 (lv_at hl 0 rfl) ?_
                have q_60 : vp_in v_58 1200 := vp_in_iff.mpr ⟨by omega, by omega⟩
                refine ms_17 hx hb hK hP hD hS q_60 dX12_readTune_153 (fun H locs hP hD hS => ?_)
                have hf := MIf.up 17 (i := (Int32.toNatClampNeg v_58)) hf (show 0 ≤ r_u_39.toInt ∧ r_u_39.toInt ≤ 9 from by omega)
                have hF_0 := FF.up hF_0 17 (upd ((va_up f16 16 (upd (f16 16) (Int32.toNatClampNeg v_49) r_u_38)) 17) (Int32.toNatClampNeg v_58) r_u_39) (by decide)
                have hY_16 := FF.up hY_16 17 (upd ((va_up f16 16 (upd (f16 16) (Int32.toNatClampNeg v_49) r_u_38)) 17) (Int32.toNatClampNeg v_58) r_u_39) (by decide)
                have hL : WL v39 (va_up (va_up f16 16 (upd (f16 16) (Int32.toNatClampNeg v_49) r_u_38)) 17 (upd ((va_up f16 16 (upd (f16 16) (Int32.toNatClampNeg v_49) r_u_38)) 17) (Int32.toNatClampNeg v_58) r_u_39)) := WL.upf 17 hL (by decide)
                have hR : RI v39 (va_up (va_up f16 16 (upd (f16 16) (Int32.toNatClampNeg v_49) r_u_38)) 17 (upd ((va_up f16 16 (upd (f16 16) (Int32.toNatClampNeg v_49) r_u_38)) 17) (Int32.toNatClampNeg v_58) r_u_39)) := RI.up 17 hR (by decide)
                refine lv_aload_n hx hb dX12_readTune_154 rfl (lv_at hl 4 rfl) ?_
                refine mg_15 hx hb ht hown hK hP dX12_readTune_155 ?_
                refine lv_iload_n hx hb dX12_readTune_158 rfl (lv_at hl 3 rfl) ?_
                refine lv_dup2_11 hx hb dX12_readTune_159 rfl rfl ?_
                have q_61 : vp_in v_8 30 := vp_in_iff.mpr ⟨by omega, by omega⟩
                refine ml_15 hx hb hK hP q_61 dX12_readTune_160 ?_
                refine lv_topi (fun v_62 ev_62 => ?_)
                have q_63 : 0 ≤ v_62.toInt ∧ v_62.toInt ≤ 12 := by rw [ev_62]; exact MIf.rd 15 hf q_61
                have q_64 : v_62.toInt = ((f16 15) (Int32.toNatClampNeg v_8)).toInt := (congrArg Int32.toInt ev_62).trans (congrArg (fun z : Nat → Int32 => (z (Int32.toNatClampNeg v_8)).toInt) (show (va_up (va_up f16 16 (upd (f16 16) (Int32.toNatClampNeg v_49) r_u_38)) 17 (upd ((va_up f16 16 (upd (f16 16) (Int32.toNatClampNeg v_49) r_u_38)) 17) (Int32.toNatClampNeg v_58) r_u_39)) 15 = (f16 15) from rfl))
                refine lv_iconst (v := 1) hx hb dX12_readTune_161 (by decide) ?_
                refine lv_iadd hx hb dX12_readTune_162 ?_
                refine lv_topi (fun v_65 ev_65 => ?_)
                have q_66 : v_65.toInt = v_62.toInt + (1 : Int32).toInt := ow_add ev_65 (by omega) (by omega)
                have q_67 : vp_in v_8 30 := vp_in_iff.mpr ⟨by omega, by omega⟩
                refine ms_15 hx hb hK hP hD hS q_67 dX12_readTune_163 (fun H locs hP hD hS => ?_)
                have hf := MIf.up 15 (i := (Int32.toNatClampNeg v_8)) hf (show 0 ≤ v_65.toInt ∧ v_65.toInt ≤ 12 from by omega)
                have hF_0 := FF.up hF_0 15 (upd ((va_up (va_up f16 16 (upd (f16 16) (Int32.toNatClampNeg v_49) r_u_38)) 17 (upd ((va_up f16 16 (upd (f16 16) (Int32.toNatClampNeg v_49) r_u_38)) 17) (Int32.toNatClampNeg v_58) r_u_39)) 15) (Int32.toNatClampNeg v_8) v_65) (by decide)
                have hY_16 := FF.up hY_16 15 (upd ((va_up (va_up f16 16 (upd (f16 16) (Int32.toNatClampNeg v_49) r_u_38)) 17 (upd ((va_up f16 16 (upd (f16 16) (Int32.toNatClampNeg v_49) r_u_38)) 17) (Int32.toNatClampNeg v_58) r_u_39)) 15) (Int32.toNatClampNeg v_8) v_65) (by decide)
                have hL : WL v39 (va_up (va_up (va_up f16 16 (upd (f16 16) (Int32.toNatClampNeg v_49) r_u_38)) 17 (upd ((va_up f16 16 (upd (f16 16) (Int32.toNatClampNeg v_49) r_u_38)) 17) (Int32.toNatClampNeg v_58) r_u_39)) 15 (upd ((va_up (va_up f16 16 (upd (f16 16) (Int32.toNatClampNeg v_49) r_u_38)) 17 (upd ((va_up f16 16 (upd (f16 16) (Int32.toNatClampNeg v_49) r_u_38)) 17) (Int32.toNatClampNeg v_58) r_u_39)) 15) (Int32.toNatClampNeg v_8) v_65)) := WL.upf 15 hL (by decide)
                have hR : RI v39 (va_up (va_up (va_up f16 16 (upd (f16 16) (Int32.toNatClampNeg v_49) r_u_38)) 17 (upd ((va_up f16 16 (upd (f16 16) (Int32.toNatClampNeg v_49) r_u_38)) 17) (Int32.toNatClampNeg v_58) r_u_39)) 15 (upd ((va_up (va_up f16 16 (upd (f16 16) (Int32.toNatClampNeg v_49) r_u_38)) 17 (upd ((va_up f16 16 (upd (f16 16) (Int32.toNatClampNeg v_49) r_u_38)) 17) (Int32.toNatClampNeg v_58) r_u_39)) 15) (Int32.toNatClampNeg v_8) v_65)) := RI.up 15 hR (by decide)
                refine lv_goto (tgt := 53) hx hb dX12_readTune_164 (by decide) ?_
                refine W.widen (k := 0) (n := 0) (Nat.le_of_ble_eq_true rfl) (Nat.le_of_ble_eq_true rfl) ?_
                exact ih_16 v39 nm39 (va_up (va_up (va_up f16 16 (upd (f16 16) (Int32.toNatClampNeg v_49) r_u_38)) 17 (upd ((va_up f16 16 (upd (f16 16) (Int32.toNatClampNeg v_49) r_u_38)) 17) (Int32.toNatClampNeg v_58) r_u_39)) 15 (upd ((va_up (va_up f16 16 (upd (f16 16) (Int32.toNatClampNeg v_49) r_u_38)) 17 (upd ((va_up f16 16 (upd (f16 16) (Int32.toNatClampNeg v_49) r_u_38)) 17) (Int32.toNatClampNeg v_58) r_u_39)) 15) (Int32.toNatClampNeg v_8) v_65)) g16 _ _ _ hv hf hR hL hW_16 hY_16 (show (v39 7).toInt ≤ (v 3).toInt ∧ ((v39 4).toInt ≠ 0 ∨ (v 4).toInt = 0) ∧ 0 ≤ mz (v 3).toInt (v39 7).toInt (v39 8).toInt ∧ mz (v 3).toInt (v39 7).toInt (v39 8).toInt ≤ mz (v 3).toInt (v 7).toInt (v 8).toInt from by omega) (show (mz (v 3).toInt (v39 7).toInt (v39 8).toInt).toNat < N_16 from by omega) hP hD hS (lv_sub hl [2, 3, 4] rfl)
              · have q_68 : r_u_40.toInt = (0 : Int32).toInt := (ow_eq _ _).mp c_41
                refine W.widen (k := 0) (n := 0) (Nat.le_of_ble_eq_true rfl) (Nat.le_of_ble_eq_true rfl) ?_
                exact W.vret hx hb hr (fun t ht9 hW => ⟨⟨(v39, nm39, f16, g16), rfl, ⟨hv, hf, hR, hL, hV_0, hF_0, (show (v39 7).toInt ≤ (v 3).toInt ∧ ((v39 4).toInt ≠ 0 ∨ (v 4).toInt = 0) from by first | omega | (subst_vars; first | rfl | omega)), (show 0 ≤ mz (v 3).toInt (v39 7).toInt (v39 8).toInt ∧ mz (v 3).toInt (v39 7).toInt (v39 8).toInt ≤ mz (v 3).toInt (v 7).toInt (v 8).toInt from by omega)⟩, ⟨by rw [ht9]; exact hP, hD⟩⟩, hS.F ht9⟩) hS.2.2 dX12_readTune_117
            · have q_69 : v_31.toInt = (12 : Int32).toInt := (ow_eq _ _).mp c_36
              exfalso
              omega
          · have q_70 : ¬ v_31.toInt = (0 : Int32).toInt := by have := (not_congr (ow_eq _ _)).mp c_34; omega
            refine lv_aload_n hx hb dX12_readTune_69 rfl (lv_at hl 2 rfl) ?_
            refine mg_8 hx hb ht hown hK hP dX12_readTune_70 ?_
            refine lv_iconst (v := 4) hx hb dX12_readTune_73 (by decide) ?_
            refine lv_icmp_ne (tgt := 167) hx hb dX12_readTune_74 (by decide) (fun c_71 => ?_) (fun c_71 => ?_)
            · have q_72 : ¬ (v16 8).toInt = (4 : Int32).toInt := by have := (not_congr (ow_eq _ _)).mp c_71; omega
              refine lv_aload_n hx hb dX12_readTune_167 rfl (lv_at hl 2 rfl) ?_
              refine mg_22 hx hb ht hown hK hP dX12_readTune_168 ?_
              refine lv_iload_n hx hb dX12_readTune_171 rfl (lv_at hl 1 rfl) ?_
              refine lv_lload_n hx hb dX12_readTune_172 rfl (lv_at hl 0 rfl) ?_
              have q_73 : vp_in v_8 28 := vp_in_iff.mpr ⟨by omega, by omega⟩
              refine ms_22 hx hb hK hP hD hS q_73 dX12_readTune_173 (fun H locs hP hD hS => ?_)
              refine lv_aload_n hx hb dX12_readTune_174 rfl (lv_at hl 2 rfl) ?_
              refine mg_11 hx hb ht hown hK hP dX12_readTune_175 ?_
              refine lv_aload_n hx hb dX12_readTune_178 rfl (lv_at hl 2 rfl) ?_
              refine mg_30 hx hb ht hown hK hP dX12_readTune_179 ?_
              refine ow_top (v 30) ((hV_16 30 (by decide)).trans ((xu_14V 30 (by decide)).trans (xu_12V 30 (by decide)))) ?_
              have q_74 : 0 ≤ (v 30).toInt ∧ (v 30).toInt ≤ 1 := by have h9 : v16 30 = (v 30) := ((hV_16 30 (by decide)).trans ((xu_14V 30 (by decide)).trans (xu_12V 30 (by decide)))); rw [← h9]; exact hv 30
              refine lv_dup2_11 hx hb dX12_readTune_182 rfl rfl ?_
              have q_75 : vp_in (v 30) 2 := vp_in_iff.mpr ⟨by omega, by omega⟩
              refine ml_11 hx hb hK hP q_75 dX12_readTune_183 ?_
              refine lv_topi (fun v_76 ev_76 => ?_)
              have q_77 : 0 ≤ v_76.toInt ∧ v_76.toInt ≤ 14 := by rw [ev_76]; exact MIf.rd 11 hf q_75
              have q_78 : v_76.toInt = ((f 11) (Int32.toNatClampNeg (v 30))).toInt := (congrArg Int32.toInt ev_76).trans (congrArg (fun z : Nat → Int32 => (z (Int32.toNatClampNeg (v 30))).toInt) (show f16 11 = (f 11) from (hF_16 11 (by decide))))
              refine lv_iconst (v := 1) hx hb dX12_readTune_184 (by decide) ?_
              refine lv_iadd hx hb dX12_readTune_185 ?_
              refine lv_topi (fun v_79 ev_79 => ?_)
              have q_80 : v_79.toInt = v_76.toInt + (1 : Int32).toInt := ow_add ev_79 (by omega) (by omega)
              have q_81 : vp_in (v 30) 2 := vp_in_iff.mpr ⟨by omega, by omega⟩
              refine ms_11 hx hb hK hP hD hS q_81 dX12_readTune_186 (fun H locs hP hD hS => ?_)
              have hf := MIf.up 11 (i := (Int32.toNatClampNeg (v 30))) hf (show 0 ≤ v_79.toInt ∧ v_79.toInt ≤ 14 from by omega)
              have hF_0 := FF.up hF_0 11 (upd (f16 11) (Int32.toNatClampNeg (v 30)) v_79) (by decide)
              have hL : WL v16 (va_up f16 11 (upd (f16 11) (Int32.toNatClampNeg (v 30)) v_79)) := WL.upf 11 hL (by decide)
              have hR : RI v16 (va_up f16 11 (upd (f16 11) (Int32.toNatClampNeg (v 30)) v_79)) := RI.up 11 hR (by decide)
              refine W.widen (k := 0) (n := 0) (Nat.le_of_ble_eq_true rfl) (Nat.le_of_ble_eq_true rfl) ?_
              exact W.vret hx hb hr (fun t ht9 hW => ⟨⟨(v16, nm16, (va_up f16 11 (upd (f16 11) (Int32.toNatClampNeg (v 30)) v_79)), (va_up g16 22 (vp_updL (g16 22) (Int32.toNatClampNeg v_8) r_u_12))), rfl, ⟨hv, hf, hR, hL, hV_0, hF_0, (show (v16 7).toInt ≤ (v 3).toInt ∧ ((v16 4).toInt ≠ 0 ∨ (v 4).toInt = 0) from by first | omega | (subst_vars; first | rfl | omega)), (show 0 ≤ mz (v 3).toInt (v16 7).toInt (v16 8).toInt ∧ mz (v 3).toInt (v16 7).toInt (v16 8).toInt ≤ mz (v 3).toInt (v 7).toInt (v 8).toInt from by omega)⟩, ⟨by rw [ht9]; exact hP, hD⟩⟩, hS.F ht9⟩) hS.2.2 dX12_readTune_187
            · have q_82 : (v16 8).toInt = (4 : Int32).toInt := (ow_eq _ _).mp c_71
              refine lv_aload_n hx hb dX12_readTune_77 rfl (lv_at hl 2 rfl) ?_
              refine mg_15 hx hb ht hown hK hP dX12_readTune_78 ?_
              refine lv_iload_n hx hb dX12_readTune_81 rfl (lv_at hl 1 rfl) ?_
              refine ml_15 hx hb hK hP q_30 dX12_readTune_82 ?_
              refine ow_top v_31 ev_31.symm ?_
              refine lv_bipush (v := 12) hx hb dX12_readTune_83 (by decide) ?_
              refine lv_icmp_ne (tgt := 92) hx hb dX12_readTune_85 (by decide) (fun c_83 => ?_) (fun c_83 => ?_)
              · have q_84 : ¬ v_31.toInt = (12 : Int32).toInt := by have := (not_congr (ow_eq _ _)).mp c_83; omega
                refine lv_aload_n hx hb dX12_readTune_92 rfl (lv_at hl 2 rfl) ?_
                refine lv_iconst (v := 0) hx hb dX12_readTune_93 (by decide) ?_
                refine lv_bipush (v := 60) hx hb dX12_readTune_94 (by decide) ?_
                have hFc := fr_free hD hS hA
                refine va_calli (va_runV (As := [.int 0, .int 60]) (rest := []) ⟨hx, hb, hml, hown, ht⟩ (m_numeral l G cy _ mo h T v16 nm16 f16 g16 (0) (60)  hv hf hR hL (show (0 : Int32).toInt ≤ (60 : Int32).toInt from by omega) (show (v16 7).toInt ≤ (v16 3).toInt from by rw [(show v16 3 = (v 3) from ((hV_16 3 (by decide)).trans ((xu_14V 3 (by decide)).trans (xu_12V 3 (by decide)))))]; omega)) (cwV 2 ht (gv k_288 k_289 k_290 k_61 k_287) rfl rfl rfl (by decide +kernel) ⟨Nat.le_of_ble_eq_true rfl, Nat.le_of_ble_eq_true rfl⟩) ⟨En.blind, va_recv hK hP (ci := 12) (q0 := 0) rfl rfl, fun U hU hW => ⟨rfl, En.of hU hW hP hK hD hN⟩⟩ rfl rfl hl.1 rfl (lv_room (Nat.le_of_ble_eq_true rfl)) dX12_readTune_96 ⟨Nat.le_of_ble_eq_true rfl, Nat.le_of_ble_eq_true rfl⟩) hS (fun q _ h => hFc q h) hFc (fun r_u_85 u_85 t9 H locs ht9 hvm hw hB hz1 hk1 hS => ?_)
                obtain ⟨v85, nm85⟩ := u_85
                obtain ⟨hP1, hD1⟩ := hB
                rw [ht9] at hP1
                obtain ⟨hv, xu_85V, wu_85, xu_85_M⟩ := hw
                dsimp only at hv xu_85V wu_85 xu_85_M
                have hP : va_P G vwCl (WMs cy mo h v85 nm85 f16 g16) H := hP1
                have hD : va_D A (WMs cy mo h v85 nm85 f16 g16) := hD1.weaken (fun _ _ _ h => hFc _ h)
                have hR : RI v85 f16 := RI.fv hR xu_85V (by decide)
                have hL : WL v85 f16 := WL.fv hL xu_85V (by decide) (by decide)
                have hV_0 := FV.tr hV_0 xu_85V (by decide)
                have hW_16 := FV.tr hW_16 xu_85V (by decide)
                clear hFc hk1 hz1 hP1 hD1
                have wu_85 : ((0 : Int32).toInt ≤ r_u_85.toInt ∧ r_u_85.toInt ≤ (60 : Int32).toInt ∧ (v85 7).toInt ≤ (v 3).toInt ∧ ((v85 4).toInt ≠ 0 ∨ ((v16 4).toInt = 0 ∧ (v16 8).toInt = 4))) := by
                  have h9 : ((0 : Int32).toInt ≤ r_u_85.toInt ∧ r_u_85.toInt ≤ (60 : Int32).toInt ∧ (v85 7).toInt ≤ (v16 3).toInt ∧ ((v85 4).toInt ≠ 0 ∨ ((v16 4).toInt = 0 ∧ (v16 8).toInt = 4))) := wu_85
                  rw [(show v16 3 = (v 3) from ((hV_16 3 (by decide)).trans ((xu_14V 3 (by decide)).trans (xu_12V 3 (by decide)))))] at h9
                  exact h9
                have xu_85_M : 0 ≤ mz (v 3).toInt (v85 7).toInt (v85 8).toInt ∧ mz (v 3).toInt (v85 7).toInt (v85 8).toInt ≤ mz (v 3).toInt (v16 7).toInt (v16 8).toInt ∧ ((v85 4).toInt ≠ 0 ∨ mz (v 3).toInt (v85 7).toInt (v85 8).toInt < mz (v 3).toInt (v16 7).toInt (v16 8).toInt) := by
                  have h9 : 0 ≤ mz (v16 3).toInt (v85 7).toInt (v85 8).toInt ∧ mz (v16 3).toInt (v85 7).toInt (v85 8).toInt ≤ mz (v16 3).toInt (v16 7).toInt (v16 8).toInt ∧ ((v85 4).toInt ≠ 0 ∨ mz (v16 3).toInt (v85 7).toInt (v85 8).toInt < mz (v16 3).toInt (v16 7).toInt (v16 8).toInt) := xu_85_M
                  rw [(show v16 3 = (v 3) from ((hV_16 3 (by decide)).trans ((xu_14V 3 (by decide)).trans (xu_12V 3 (by decide)))))] at h9
                  exact h9
                refine lv_istore (lv' := [(4, .int r_u_85), (2, .long r_u_12), (1, .int v_8), (0, .ref mo)]) hx hb dX12_readTune_99 hl (by decide) rfl (fun ls hl => ?_)
                refine lv_aload_n hx hb dX12_readTune_101 rfl (lv_at hl 3 rfl) ?_
                refine lv_iconst (v := 1) hx hb dX12_readTune_102 (by decide) ?_
                refine lv_bipush (v := 9) hx hb dX12_readTune_103 (by decide) ?_
                have hFc := fr_free hD hS hA
                refine va_calli (va_runV (As := [.int 1, .int 9]) (rest := []) ⟨hx, hb, hml, hown, ht⟩ (m_numeral l G cy _ mo h T v85 nm85 f16 g16 (1) (9)  hv hf hR hL (show (1 : Int32).toInt ≤ (9 : Int32).toInt from by omega) (show (v85 7).toInt ≤ (v85 3).toInt from by rw [(show v85 3 = (v 3) from ((xu_85V 3 (by decide)).trans ((hV_16 3 (by decide)).trans ((xu_14V 3 (by decide)).trans (xu_12V 3 (by decide))))))]; omega)) (cwV 2 ht (gv k_288 k_289 k_290 k_61 k_287) rfl rfl rfl (by decide +kernel) ⟨Nat.le_of_ble_eq_true rfl, Nat.le_of_ble_eq_true rfl⟩) ⟨En.blind, va_recv hK hP (ci := 12) (q0 := 0) rfl rfl, fun U hU hW => ⟨rfl, En.of hU hW hP hK hD hN⟩⟩ rfl rfl hl.1 rfl (lv_room (Nat.le_of_ble_eq_true rfl)) dX12_readTune_105 ⟨Nat.le_of_ble_eq_true rfl, Nat.le_of_ble_eq_true rfl⟩) hS (fun q _ h => hFc q h) hFc (fun r_u_86 u_86 t9 H locs ht9 hvm hw hB hz1 hk1 hS => ?_)
                obtain ⟨v86, nm86⟩ := u_86
                obtain ⟨hP1, hD1⟩ := hB
                rw [ht9] at hP1
                obtain ⟨hv, xu_86V, wu_86, xu_86_M⟩ := hw
                dsimp only at hv xu_86V wu_86 xu_86_M
                have hP : va_P G vwCl (WMs cy mo h v86 nm86 f16 g16) H := hP1
                have hD : va_D A (WMs cy mo h v86 nm86 f16 g16) := hD1.weaken (fun _ _ _ h => hFc _ h)
                have hR : RI v86 f16 := RI.fv hR xu_86V (by decide)
                have hL : WL v86 f16 := WL.fv hL xu_86V (by decide) (by decide)
                have hV_0 := FV.tr hV_0 xu_86V (by decide)
                have hW_16 := FV.tr hW_16 xu_86V (by decide)
                clear hFc hk1 hz1 hP1 hD1
                have wu_86 : ((1 : Int32).toInt ≤ r_u_86.toInt ∧ r_u_86.toInt ≤ (9 : Int32).toInt ∧ (v86 7).toInt ≤ (v 3).toInt ∧ ((v86 4).toInt ≠ 0 ∨ ((v85 4).toInt = 0 ∧ (v85 8).toInt = 4))) := by
                  have h9 : ((1 : Int32).toInt ≤ r_u_86.toInt ∧ r_u_86.toInt ≤ (9 : Int32).toInt ∧ (v86 7).toInt ≤ (v85 3).toInt ∧ ((v86 4).toInt ≠ 0 ∨ ((v85 4).toInt = 0 ∧ (v85 8).toInt = 4))) := wu_86
                  rw [(show v85 3 = (v 3) from ((xu_85V 3 (by decide)).trans ((hV_16 3 (by decide)).trans ((xu_14V 3 (by decide)).trans (xu_12V 3 (by decide))))))] at h9
                  exact h9
                have xu_86_M : 0 ≤ mz (v 3).toInt (v86 7).toInt (v86 8).toInt ∧ mz (v 3).toInt (v86 7).toInt (v86 8).toInt ≤ mz (v 3).toInt (v85 7).toInt (v85 8).toInt ∧ ((v86 4).toInt ≠ 0 ∨ mz (v 3).toInt (v86 7).toInt (v86 8).toInt < mz (v 3).toInt (v85 7).toInt (v85 8).toInt) := by
                  have h9 : 0 ≤ mz (v85 3).toInt (v86 7).toInt (v86 8).toInt ∧ mz (v85 3).toInt (v86 7).toInt (v86 8).toInt ≤ mz (v85 3).toInt (v85 7).toInt (v85 8).toInt ∧ ((v86 4).toInt ≠ 0 ∨ mz (v85 3).toInt (v86 7).toInt (v86 8).toInt < mz (v85 3).toInt (v85 7).toInt (v85 8).toInt) := xu_86_M
                  rw [(show v85 3 = (v 3) from ((xu_85V 3 (by decide)).trans ((hV_16 3 (by decide)).trans ((xu_14V 3 (by decide)).trans (xu_12V 3 (by decide))))))] at h9
                  exact h9
                refine lv_istore (lv' := [(5, .int r_u_86), (4, .int r_u_85), (2, .long r_u_12), (1, .int v_8), (0, .ref mo)]) hx hb dX12_readTune_108 hl (by decide) rfl (fun ls hl => ?_)
                refine lv_aload_n hx hb dX12_readTune_110 rfl (lv_at hl 4 rfl) ?_
                have hFc := fr_new hS hA
                refine va_calli (va_runV (As := []) (rest := []) ⟨hx, hb, hml, hown, ht⟩ (m_isGood l G cy _ mo h T v86 nm86 f16 g16   hv hf hR hL) (cwV 0 ht (gv k_224 k_225 k_226 k_61 k_223) rfl rfl rfl (by decide +kernel) ⟨Nat.le_of_ble_eq_true rfl, Nat.le_of_ble_eq_true rfl⟩) ⟨En.blind, va_recv hK hP (ci := 12) (q0 := 0) rfl rfl, fun U hU hW => ⟨rfl, En.of hU hW hP hK hD hN⟩⟩ rfl rfl hl.1 rfl (lv_room (Nat.le_of_ble_eq_true rfl)) dX12_readTune_111 ⟨Nat.le_of_ble_eq_true rfl, Nat.le_of_ble_eq_true rfl⟩) hS (fun q _ h => hFc q h) hFc (fun r_u_87 u_87 t9 H locs ht9 hvm hw hB hz1 hk1 hS => ?_)
                have hP := fr_keep hP hk1
                have wu_87 := hw
                clear hFc hk1 hz1 hB hw
                have wu_87 : (r_u_87.toInt = 0 ∨ r_u_87.toInt = 1) ∧ ((r_u_87.toInt = 1 ∧ (v86 4).toInt = 0) ∨ (r_u_87.toInt = 0 ∧ (v86 4).toInt ≠ 0)) := wu_87
                refine lv_if_ne (tgt := 118) hx hb dX12_readTune_114 (by decide) (fun c_88 => ?_) (fun c_88 => ?_)
                · have q_89 : ¬ r_u_87.toInt = (0 : Int32).toInt := by have := (not_congr (ow_eq _ _)).mp c_88; omega
                  refine lv_aload_n hx hb dX12_readTune_118 rfl (lv_at hl 4 rfl) ?_
                  refine mg_16 hx hb ht hown hK hP dX12_readTune_119 ?_
                  refine lv_bipush (v := 40) hx hb dX12_readTune_122 (by decide) ?_
                  refine lv_iload_n hx hb dX12_readTune_124 rfl (lv_at hl 3 rfl) ?_
                  refine lv_imul hx hb dX12_readTune_125 ?_
                  refine lv_topi (fun v_90 ev_90 => ?_)
                  have q_91 : v_90.toInt = 40 * v_8.toInt := ow_mul ev_90 (by decide) (by omega) (by omega)
                  refine lv_aload_n hx hb dX12_readTune_126 rfl (lv_at hl 4 rfl) ?_
                  refine mg_15 hx hb ht hown hK hP dX12_readTune_127 ?_
                  refine lv_iload_n hx hb dX12_readTune_130 rfl (lv_at hl 3 rfl) ?_
                  have q_92 : vp_in v_8 30 := vp_in_iff.mpr ⟨by omega, by omega⟩
                  refine ml_15 hx hb hK hP q_92 dX12_readTune_131 ?_
                  refine lv_topi (fun v_93 ev_93 => ?_)
                  have q_94 : 0 ≤ v_93.toInt ∧ v_93.toInt ≤ 12 := by rw [ev_93]; exact MIf.rd 15 hf q_92
                  have q_95 : v_93.toInt = ((f16 15) (Int32.toNatClampNeg v_8)).toInt := (congrArg Int32.toInt ev_93).trans (congrArg (fun z : Nat → Int32 => (z (Int32.toNatClampNeg v_8)).toInt) (show f16 15 = (f16 15) from rfl))
                  refine lv_iadd hx hb dX12_readTune_132 ?_
                  refine lv_topi (fun v_96 ev_96 => ?_)
                  have q_97 : v_96.toInt = v_90.toInt + v_93.toInt := ow_add ev_96 (by omega) (by omega)
                  refine lv_iload hx hb dX12_readTune_133 (lv_at hl 1 rfl) ?_
                  have q_98 : vp_in v_96 1200 := vp_in_iff.mpr ⟨by omega, by omega⟩
                  refine ms_16 hx hb hK hP hD hS q_98 dX12_readTune_135 (fun H locs hP hD hS => ?_)
                  have hf := MIf.up 16 (i := (Int32.toNatClampNeg v_96)) hf (ow_any r_u_85)
                  have hF_0 := FF.up hF_0 16 (upd (f16 16) (Int32.toNatClampNeg v_96) r_u_85) (by decide)
                  have hY_16 := FF.up hY_16 16 (upd (f16 16) (Int32.toNatClampNeg v_96) r_u_85) (by decide)
                  have hL : WL v86 (va_up f16 16 (upd (f16 16) (Int32.toNatClampNeg v_96) r_u_85)) := WL.upf 16 hL (by decide)
                  have hR : RI v86 (va_up f16 16 (upd (f16 16) (Int32.toNatClampNeg v_96) r_u_85)) := RI.up 16 hR (by decide)
                  refine lv_aload_n hx hb dX12_readTune_136 rfl (lv_at hl 4 rfl) ?_
                  refine mg_17 hx hb ht hown hK hP dX12_readTune_137 ?_
                  refine lv_bipush (v := 40) hx hb dX12_readTune_140 (by decide) ?_
                  refine lv_iload_n hx hb dX12_readTune_142 rfl (lv_at hl 3 rfl) ?_
                  refine lv_imul hx hb dX12_readTune_143 ?_
                  refine lv_topi (fun v_99 ev_99 => ?_)
                  have q_100 : v_99.toInt = 40 * v_8.toInt := ow_mul ev_99 (by decide) (by omega) (by omega)
                  refine lv_aload_n hx hb dX12_readTune_144 rfl (lv_at hl 4 rfl) ?_
                  refine mg_15 hx hb ht hown hK hP dX12_readTune_145 ?_
                  refine lv_iload_n hx hb dX12_readTune_148 rfl (lv_at hl 3 rfl) ?_
                  have q_101 : vp_in v_8 30 := vp_in_iff.mpr ⟨by omega, by omega⟩
                  refine ml_15 hx hb hK hP q_101 dX12_readTune_149 ?_
                  refine lv_topi (fun v_102 ev_102 => ?_)
                  have q_103 : 0 ≤ v_102.toInt ∧ v_102.toInt ≤ 12 := by rw [ev_102]; exact MIf.rd 15 hf q_101
                  have q_104 : v_102.toInt = ((f16 15) (Int32.toNatClampNeg v_8)).toInt := (congrArg Int32.toInt ev_102).trans (congrArg (fun z : Nat → Int32 => (z (Int32.toNatClampNeg v_8)).toInt) (show (va_up f16 16 (upd (f16 16) (Int32.toNatClampNeg v_96) r_u_85)) 15 = (f16 15) from rfl))
                  refine lv_iadd hx hb dX12_readTune_150 ?_
                  refine lv_topi (fun v_105 ev_105 => ?_)
                  have q_106 : v_105.toInt = v_99.toInt + v_102.toInt := ow_add ev_105 (by omega) (by omega)
                  refine lv_iload hx hb dX12_readTune_151 (lv_at hl 0 rfl) ?_
                  have q_107 : vp_in v_105 1200 := vp_in_iff.mpr ⟨by omega, by omega⟩
                  refine ms_17 hx hb hK hP hD hS q_107 dX12_readTune_153 (fun H locs hP hD hS => ?_)
                  have hf := MIf.up 17 (i := (Int32.toNatClampNeg v_105)) hf (show 0 ≤ r_u_86.toInt ∧ r_u_86.toInt ≤ 9 from by omega)
                  have hF_0 := FF.up hF_0 17 (upd ((va_up f16 16 (upd (f16 16) (Int32.toNatClampNeg v_96) r_u_85)) 17) (Int32.toNatClampNeg v_105) r_u_86) (by decide)
                  have hY_16 := FF.up hY_16 17 (upd ((va_up f16 16 (upd (f16 16) (Int32.toNatClampNeg v_96) r_u_85)) 17) (Int32.toNatClampNeg v_105) r_u_86) (by decide)
                  have hL : WL v86 (va_up (va_up f16 16 (upd (f16 16) (Int32.toNatClampNeg v_96) r_u_85)) 17 (upd ((va_up f16 16 (upd (f16 16) (Int32.toNatClampNeg v_96) r_u_85)) 17) (Int32.toNatClampNeg v_105) r_u_86)) := WL.upf 17 hL (by decide)
                  have hR : RI v86 (va_up (va_up f16 16 (upd (f16 16) (Int32.toNatClampNeg v_96) r_u_85)) 17 (upd ((va_up f16 16 (upd (f16 16) (Int32.toNatClampNeg v_96) r_u_85)) 17) (Int32.toNatClampNeg v_105) r_u_86)) := RI.up 17 hR (by decide)
                  refine lv_aload_n hx hb dX12_readTune_154 rfl (lv_at hl 4 rfl) ?_
                  refine mg_15 hx hb ht hown hK hP dX12_readTune_155 ?_
                  refine lv_iload_n hx hb dX12_readTune_158 rfl (lv_at hl 3 rfl) ?_
                  refine lv_dup2_11 hx hb dX12_readTune_159 rfl rfl ?_
                  have q_108 : vp_in v_8 30 := vp_in_iff.mpr ⟨by omega, by omega⟩
                  refine ml_15 hx hb hK hP q_108 dX12_readTune_160 ?_
                  refine lv_topi (fun v_109 ev_109 => ?_)
                  have q_110 : 0 ≤ v_109.toInt ∧ v_109.toInt ≤ 12 := by rw [ev_109]; exact MIf.rd 15 hf q_108
                  have q_111 : v_109.toInt = ((f16 15) (Int32.toNatClampNeg v_8)).toInt := (congrArg Int32.toInt ev_109).trans (congrArg (fun z : Nat → Int32 => (z (Int32.toNatClampNeg v_8)).toInt) (show (va_up (va_up f16 16 (upd (f16 16) (Int32.toNatClampNeg v_96) r_u_85)) 17 (upd ((va_up f16 16 (upd (f16 16) (Int32.toNatClampNeg v_96) r_u_85)) 17) (Int32.toNatClampNeg v_105) r_u_86)) 15 = (f16 15) from rfl))
                  refine lv_iconst (v := 1) hx hb dX12_readTune_161 (by decide) ?_
                  refine lv_iadd hx hb dX12_readTune_162 ?_
                  refine lv_topi (fun v_112 ev_112 => ?_)
                  have q_113 : v_112.toInt = v_109.toInt + (1 : Int32).toInt := ow_add ev_112 (by omega) (by omega)
                  have q_114 : vp_in v_8 30 := vp_in_iff.mpr ⟨by omega, by omega⟩
                  refine ms_15 hx hb hK hP hD hS q_114 dX12_readTune_163 (fun H locs hP hD hS => ?_)
                  have hf := MIf.up 15 (i := (Int32.toNatClampNeg v_8)) hf (show 0 ≤ v_112.toInt ∧ v_112.toInt ≤ 12 from by omega)
                  have hF_0 := FF.up hF_0 15 (upd ((va_up (va_up f16 16 (upd (f16 16) (Int32.toNatClampNeg v_96) r_u_85)) 17 (upd ((va_up f16 16 (upd (f16 16) (Int32.toNatClampNeg v_96) r_u_85)) 17) (Int32.toNatClampNeg v_105) r_u_86)) 15) (Int32.toNatClampNeg v_8) v_112) (by decide)
                  have hY_16 := FF.up hY_16 15 (upd ((va_up (va_up f16 16 (upd (f16 16) (Int32.toNatClampNeg v_96) r_u_85)) 17 (upd ((va_up f16 16 (upd (f16 16) (Int32.toNatClampNeg v_96) r_u_85)) 17) (Int32.toNatClampNeg v_105) r_u_86)) 15) (Int32.toNatClampNeg v_8) v_112) (by decide)
                  have hL : WL v86 (va_up (va_up (va_up f16 16 (upd (f16 16) (Int32.toNatClampNeg v_96) r_u_85)) 17 (upd ((va_up f16 16 (upd (f16 16) (Int32.toNatClampNeg v_96) r_u_85)) 17) (Int32.toNatClampNeg v_105) r_u_86)) 15 (upd ((va_up (va_up f16 16 (upd (f16 16) (Int32.toNatClampNeg v_96) r_u_85)) 17 (upd ((va_up f16 16 (upd (f16 16) (Int32.toNatClampNeg v_96) r_u_85)) 17) (Int32.toNatClampNeg v_105) r_u_86)) 15) (Int32.toNatClampNeg v_8) v_112)) := WL.upf 15 hL (by decide)
                  have hR : RI v86 (va_up (va_up (va_up f16 16 (upd (f16 16) (Int32.toNatClampNeg v_96) r_u_85)) 17 (upd ((va_up f16 16 (upd (f16 16) (Int32.toNatClampNeg v_96) r_u_85)) 17) (Int32.toNatClampNeg v_105) r_u_86)) 15 (upd ((va_up (va_up f16 16 (upd (f16 16) (Int32.toNatClampNeg v_96) r_u_85)) 17 (upd ((va_up f16 16 (upd (f16 16) (Int32.toNatClampNeg v_96) r_u_85)) 17) (Int32.toNatClampNeg v_105) r_u_86)) 15) (Int32.toNatClampNeg v_8) v_112)) := RI.up 15 hR (by decide)
                  refine lv_goto (tgt := 53) hx hb dX12_readTune_164 (by decide) ?_
                  refine W.widen (k := 0) (n := 0) (Nat.le_of_ble_eq_true rfl) (Nat.le_of_ble_eq_true rfl) ?_
                  exact ih_16 v86 nm86 (va_up (va_up (va_up f16 16 (upd (f16 16) (Int32.toNatClampNeg v_96) r_u_85)) 17 (upd ((va_up f16 16 (upd (f16 16) (Int32.toNatClampNeg v_96) r_u_85)) 17) (Int32.toNatClampNeg v_105) r_u_86)) 15 (upd ((va_up (va_up f16 16 (upd (f16 16) (Int32.toNatClampNeg v_96) r_u_85)) 17 (upd ((va_up f16 16 (upd (f16 16) (Int32.toNatClampNeg v_96) r_u_85)) 17) (Int32.toNatClampNeg v_105) r_u_86)) 15) (Int32.toNatClampNeg v_8) v_112)) g16 _ _ _ hv hf hR hL hW_16 hY_16 (show (v86 7).toInt ≤ (v 3).toInt ∧ ((v86 4).toInt ≠ 0 ∨ (v 4).toInt = 0) ∧ 0 ≤ mz (v 3).toInt (v86 7).toInt (v86 8).toInt ∧ mz (v 3).toInt (v86 7).toInt (v86 8).toInt ≤ mz (v 3).toInt (v 7).toInt (v 8).toInt from by omega) (show (mz (v 3).toInt (v86 7).toInt (v86 8).toInt).toNat < N_16 from by omega) hP hD hS (lv_sub hl [2, 3, 4] rfl)
                · have q_115 : r_u_87.toInt = (0 : Int32).toInt := (ow_eq _ _).mp c_88
                  refine W.widen (k := 0) (n := 0) (Nat.le_of_ble_eq_true rfl) (Nat.le_of_ble_eq_true rfl) ?_
                  exact W.vret hx hb hr (fun t ht9 hW => ⟨⟨(v86, nm86, f16, g16), rfl, ⟨hv, hf, hR, hL, hV_0, hF_0, (show (v86 7).toInt ≤ (v 3).toInt ∧ ((v86 4).toInt ≠ 0 ∨ (v 4).toInt = 0) from by first | omega | (subst_vars; first | rfl | omega)), (show 0 ≤ mz (v 3).toInt (v86 7).toInt (v86 8).toInt ∧ mz (v 3).toInt (v86 7).toInt (v86 8).toInt ≤ mz (v 3).toInt (v 7).toInt (v 8).toInt from by omega)⟩, ⟨by rw [ht9]; exact hP, hD⟩⟩, hS.F ht9⟩) hS.2.2 dX12_readTune_117
              · have q_116 : v_31.toInt = (12 : Int32).toInt := (ow_eq _ _).mp c_83
                refine lv_aload_n hx hb dX12_readTune_88 rfl (lv_at hl 2 rfl) ?_
                have hFc := fr_free hD hS hA
                refine va_callv (va_runV (As := []) (rest := []) ⟨hx, hb, hml, hown, ht⟩ (m_misplaced l G cy _ mo h T v16 nm16 f16 g16   hv hf hR hL) (cwV 0 ht (gv k_228 k_229 k_230 k_61 k_227) rfl rfl rfl (by decide +kernel) ⟨Nat.le_of_ble_eq_true rfl, Nat.le_of_ble_eq_true rfl⟩) ⟨En.blind, va_recv hK hP (ci := 12) (q0 := 0) rfl rfl, fun U hU hW => ⟨rfl, En.of hU hW hP hK hD hN⟩⟩ rfl rfl hl.1 rfl (lv_room (Nat.le_of_ble_eq_true rfl)) dX12_readTune_89 ⟨Nat.le_of_ble_eq_true rfl, Nat.le_of_ble_eq_true rfl⟩) hS (fun q _ h => hFc q h) hFc (fun u_117 t9 H locs ht9 hvm hw hB hz1 hk1 hS => ?_)
                obtain ⟨v117, nm117⟩ := u_117
                obtain ⟨hP1, hD1⟩ := hB
                rw [ht9] at hP1
                obtain ⟨hv, xu_117V, wu_117⟩ := hw
                dsimp only at hv xu_117V wu_117
                have hP : va_P G vwCl (WMs cy mo h v117 nm117 f16 g16) H := hP1
                have hD : va_D A (WMs cy mo h v117 nm117 f16 g16) := hD1.weaken (fun _ _ _ h => hFc _ h)
                have hR : RI v117 f16 := RI.fv hR xu_117V (by decide)
                have hL : WL v117 f16 := WL.fv hL xu_117V (by decide) (by decide)
                have hV_0 := FV.tr hV_0 xu_117V (by decide)
                have hW_16 := FV.tr hW_16 xu_117V (by decide)
                clear hFc hk1 hz1 hP1 hD1
                have wu_117 : (1 ≤ (v117 4).toInt) := wu_117
                refine lv_aload_n hx hb dX12_readTune_92 rfl (lv_at hl 2 rfl) ?_
                refine lv_iconst (v := 0) hx hb dX12_readTune_93 (by decide) ?_
                refine lv_bipush (v := 60) hx hb dX12_readTune_94 (by decide) ?_
                have hFc := fr_free hD hS hA
                refine va_calli (va_runV (As := [.int 0, .int 60]) (rest := []) ⟨hx, hb, hml, hown, ht⟩ (m_numeral l G cy _ mo h T v117 nm117 f16 g16 (0) (60)  hv hf hR hL (show (0 : Int32).toInt ≤ (60 : Int32).toInt from by omega) (show (v117 7).toInt ≤ (v117 3).toInt from by rw [(show v117 7 = (v16 7) from (xu_117V 7 (by decide))), (show v117 3 = (v 3) from ((xu_117V 3 (by decide)).trans ((hV_16 3 (by decide)).trans ((xu_14V 3 (by decide)).trans (xu_12V 3 (by decide))))))]; omega)) (cwV 2 ht (gv k_288 k_289 k_290 k_61 k_287) rfl rfl rfl (by decide +kernel) ⟨Nat.le_of_ble_eq_true rfl, Nat.le_of_ble_eq_true rfl⟩) ⟨En.blind, va_recv hK hP (ci := 12) (q0 := 0) rfl rfl, fun U hU hW => ⟨rfl, En.of hU hW hP hK hD hN⟩⟩ rfl rfl hl.1 rfl (lv_room (Nat.le_of_ble_eq_true rfl)) dX12_readTune_96 ⟨Nat.le_of_ble_eq_true rfl, Nat.le_of_ble_eq_true rfl⟩) hS (fun q _ h => hFc q h) hFc (fun r_u_118 u_118 t9 H locs ht9 hvm hw hB hz1 hk1 hS => ?_)
                obtain ⟨v118, nm118⟩ := u_118
                obtain ⟨hP1, hD1⟩ := hB
                rw [ht9] at hP1
                obtain ⟨hv, xu_118V, wu_118, xu_118_M⟩ := hw
                dsimp only at hv xu_118V wu_118 xu_118_M
                have hP : va_P G vwCl (WMs cy mo h v118 nm118 f16 g16) H := hP1
                have hD : va_D A (WMs cy mo h v118 nm118 f16 g16) := hD1.weaken (fun _ _ _ h => hFc _ h)
                have hR : RI v118 f16 := RI.fv hR xu_118V (by decide)
                have hL : WL v118 f16 := WL.fv hL xu_118V (by decide) (by decide)
                have hV_0 := FV.tr hV_0 xu_118V (by decide)
                have hW_16 := FV.tr hW_16 xu_118V (by decide)
                clear hFc hk1 hz1 hP1 hD1
                have wu_118 : ((0 : Int32).toInt ≤ r_u_118.toInt ∧ r_u_118.toInt ≤ (60 : Int32).toInt ∧ (v118 7).toInt ≤ (v 3).toInt ∧ ((v118 4).toInt ≠ 0 ∨ ((v117 4).toInt = 0 ∧ (v16 8).toInt = 4))) := by
                  have h9 : ((0 : Int32).toInt ≤ r_u_118.toInt ∧ r_u_118.toInt ≤ (60 : Int32).toInt ∧ (v118 7).toInt ≤ (v117 3).toInt ∧ ((v118 4).toInt ≠ 0 ∨ ((v117 4).toInt = 0 ∧ (v117 8).toInt = 4))) := wu_118
                  rw [(show v117 3 = (v 3) from ((xu_117V 3 (by decide)).trans ((hV_16 3 (by decide)).trans ((xu_14V 3 (by decide)).trans (xu_12V 3 (by decide)))))), (show v117 8 = (v16 8) from (xu_117V 8 (by decide)))] at h9
                  exact h9
                have xu_118_M : 0 ≤ mz (v 3).toInt (v118 7).toInt (v118 8).toInt ∧ mz (v 3).toInt (v118 7).toInt (v118 8).toInt ≤ mz (v 3).toInt (v16 7).toInt (v16 8).toInt ∧ ((v118 4).toInt ≠ 0 ∨ mz (v 3).toInt (v118 7).toInt (v118 8).toInt < mz (v 3).toInt (v16 7).toInt (v16 8).toInt) := by
                  have h9 : 0 ≤ mz (v117 3).toInt (v118 7).toInt (v118 8).toInt ∧ mz (v117 3).toInt (v118 7).toInt (v118 8).toInt ≤ mz (v117 3).toInt (v117 7).toInt (v117 8).toInt ∧ ((v118 4).toInt ≠ 0 ∨ mz (v117 3).toInt (v118 7).toInt (v118 8).toInt < mz (v117 3).toInt (v117 7).toInt (v117 8).toInt) := xu_118_M
                  rw [(show v117 3 = (v 3) from ((xu_117V 3 (by decide)).trans ((hV_16 3 (by decide)).trans ((xu_14V 3 (by decide)).trans (xu_12V 3 (by decide)))))), (show v117 7 = (v16 7) from (xu_117V 7 (by decide))), (show v117 8 = (v16 8) from (xu_117V 8 (by decide)))] at h9
                  exact h9
                refine lv_istore (lv' := [(4, .int r_u_118), (2, .long r_u_12), (1, .int v_8), (0, .ref mo)]) hx hb dX12_readTune_99 hl (by decide) rfl (fun ls hl => ?_)
                refine lv_aload_n hx hb dX12_readTune_101 rfl (lv_at hl 3 rfl) ?_
                refine lv_iconst (v := 1) hx hb dX12_readTune_102 (by decide) ?_
                refine lv_bipush (v := 9) hx hb dX12_readTune_103 (by decide) ?_
                have hFc := fr_free hD hS hA
                refine va_calli (va_runV (As := [.int 1, .int 9]) (rest := []) ⟨hx, hb, hml, hown, ht⟩ (m_numeral l G cy _ mo h T v118 nm118 f16 g16 (1) (9)  hv hf hR hL (show (1 : Int32).toInt ≤ (9 : Int32).toInt from by omega) (show (v118 7).toInt ≤ (v118 3).toInt from by rw [(show v118 3 = (v 3) from ((xu_118V 3 (by decide)).trans ((xu_117V 3 (by decide)).trans ((hV_16 3 (by decide)).trans ((xu_14V 3 (by decide)).trans (xu_12V 3 (by decide)))))))]; omega)) (cwV 2 ht (gv k_288 k_289 k_290 k_61 k_287) rfl rfl rfl (by decide +kernel) ⟨Nat.le_of_ble_eq_true rfl, Nat.le_of_ble_eq_true rfl⟩) ⟨En.blind, va_recv hK hP (ci := 12) (q0 := 0) rfl rfl, fun U hU hW => ⟨rfl, En.of hU hW hP hK hD hN⟩⟩ rfl rfl hl.1 rfl (lv_room (Nat.le_of_ble_eq_true rfl)) dX12_readTune_105 ⟨Nat.le_of_ble_eq_true rfl, Nat.le_of_ble_eq_true rfl⟩) hS (fun q _ h => hFc q h) hFc (fun r_u_119 u_119 t9 H locs ht9 hvm hw hB hz1 hk1 hS => ?_)
                obtain ⟨v119, nm119⟩ := u_119
                obtain ⟨hP1, hD1⟩ := hB
                rw [ht9] at hP1
                obtain ⟨hv, xu_119V, wu_119, xu_119_M⟩ := hw
                dsimp only at hv xu_119V wu_119 xu_119_M
                have hP : va_P G vwCl (WMs cy mo h v119 nm119 f16 g16) H := hP1
                have hD : va_D A (WMs cy mo h v119 nm119 f16 g16) := hD1.weaken (fun _ _ _ h => hFc _ h)
                have hR : RI v119 f16 := RI.fv hR xu_119V (by decide)
                have hL : WL v119 f16 := WL.fv hL xu_119V (by decide) (by decide)
                have hV_0 := FV.tr hV_0 xu_119V (by decide)
                have hW_16 := FV.tr hW_16 xu_119V (by decide)
                clear hFc hk1 hz1 hP1 hD1
                have wu_119 : ((1 : Int32).toInt ≤ r_u_119.toInt ∧ r_u_119.toInt ≤ (9 : Int32).toInt ∧ (v119 7).toInt ≤ (v 3).toInt ∧ ((v119 4).toInt ≠ 0 ∨ ((v118 4).toInt = 0 ∧ (v118 8).toInt = 4))) := by
                  have h9 : ((1 : Int32).toInt ≤ r_u_119.toInt ∧ r_u_119.toInt ≤ (9 : Int32).toInt ∧ (v119 7).toInt ≤ (v118 3).toInt ∧ ((v119 4).toInt ≠ 0 ∨ ((v118 4).toInt = 0 ∧ (v118 8).toInt = 4))) := wu_119
                  rw [(show v118 3 = (v 3) from ((xu_118V 3 (by decide)).trans ((xu_117V 3 (by decide)).trans ((hV_16 3 (by decide)).trans ((xu_14V 3 (by decide)).trans (xu_12V 3 (by decide)))))))] at h9
                  exact h9
                have xu_119_M : 0 ≤ mz (v 3).toInt (v119 7).toInt (v119 8).toInt ∧ mz (v 3).toInt (v119 7).toInt (v119 8).toInt ≤ mz (v 3).toInt (v118 7).toInt (v118 8).toInt ∧ ((v119 4).toInt ≠ 0 ∨ mz (v 3).toInt (v119 7).toInt (v119 8).toInt < mz (v 3).toInt (v118 7).toInt (v118 8).toInt) := by
                  have h9 : 0 ≤ mz (v118 3).toInt (v119 7).toInt (v119 8).toInt ∧ mz (v118 3).toInt (v119 7).toInt (v119 8).toInt ≤ mz (v118 3).toInt (v118 7).toInt (v118 8).toInt ∧ ((v119 4).toInt ≠ 0 ∨ mz (v118 3).toInt (v119 7).toInt (v119 8).toInt < mz (v118 3).toInt (v118 7).toInt (v118 8).toInt) := xu_119_M
                  rw [(show v118 3 = (v 3) from ((xu_118V 3 (by decide)).trans ((xu_117V 3 (by decide)).trans ((hV_16 3 (by decide)).trans ((xu_14V 3 (by decide)).trans (xu_12V 3 (by decide)))))))] at h9
                  exact h9
                refine lv_istore (lv' := [(5, .int r_u_119), (4, .int r_u_118), (2, .long r_u_12), (1, .int v_8), (0, .ref mo)]) hx hb dX12_readTune_108 hl (by decide) rfl (fun ls hl => ?_)
                refine lv_aload_n hx hb dX12_readTune_110 rfl (lv_at hl 4 rfl) ?_
                have hFc := fr_new hS hA
                refine va_calli (va_runV (As := []) (rest := []) ⟨hx, hb, hml, hown, ht⟩ (m_isGood l G cy _ mo h T v119 nm119 f16 g16   hv hf hR hL) (cwV 0 ht (gv k_224 k_225 k_226 k_61 k_223) rfl rfl rfl (by decide +kernel) ⟨Nat.le_of_ble_eq_true rfl, Nat.le_of_ble_eq_true rfl⟩) ⟨En.blind, va_recv hK hP (ci := 12) (q0 := 0) rfl rfl, fun U hU hW => ⟨rfl, En.of hU hW hP hK hD hN⟩⟩ rfl rfl hl.1 rfl (lv_room (Nat.le_of_ble_eq_true rfl)) dX12_readTune_111 ⟨Nat.le_of_ble_eq_true rfl, Nat.le_of_ble_eq_true rfl⟩) hS (fun q _ h => hFc q h) hFc (fun r_u_120 u_120 t9 H locs ht9 hvm hw hB hz1 hk1 hS => ?_)
                have hP := fr_keep hP hk1
                have wu_120 := hw
                clear hFc hk1 hz1 hB hw
                have wu_120 : (r_u_120.toInt = 0 ∨ r_u_120.toInt = 1) ∧ ((r_u_120.toInt = 1 ∧ (v119 4).toInt = 0) ∨ (r_u_120.toInt = 0 ∧ (v119 4).toInt ≠ 0)) := wu_120
                refine lv_if_ne (tgt := 118) hx hb dX12_readTune_114 (by decide) (fun c_121 => ?_) (fun c_121 => ?_)
                · have q_122 : ¬ r_u_120.toInt = (0 : Int32).toInt := by have := (not_congr (ow_eq _ _)).mp c_121; omega
                  refine lv_aload_n hx hb dX12_readTune_118 rfl (lv_at hl 4 rfl) ?_
                  refine mg_16 hx hb ht hown hK hP dX12_readTune_119 ?_
                  refine lv_bipush (v := 40) hx hb dX12_readTune_122 (by decide) ?_
                  refine lv_iload_n hx hb dX12_readTune_124 rfl (lv_at hl 3 rfl) ?_
                  refine lv_imul hx hb dX12_readTune_125 ?_
                  refine lv_topi (fun v_123 ev_123 => ?_)
                  have q_124 : v_123.toInt = 40 * v_8.toInt := ow_mul ev_123 (by decide) (by omega) (by omega)
                  refine lv_aload_n hx hb dX12_readTune_126 rfl (lv_at hl 4 rfl) ?_
                  refine mg_15 hx hb ht hown hK hP dX12_readTune_127 ?_
                  refine lv_iload_n hx hb dX12_readTune_130 rfl (lv_at hl 3 rfl) ?_
                  have q_125 : vp_in v_8 30 := vp_in_iff.mpr ⟨by omega, by omega⟩
                  refine ml_15 hx hb hK hP q_125 dX12_readTune_131 ?_
                  refine lv_topi (fun v_126 ev_126 => ?_)
                  have q_127 : 0 ≤ v_126.toInt ∧ v_126.toInt ≤ 12 := by rw [ev_126]; exact MIf.rd 15 hf q_125
                  have q_128 : v_126.toInt = ((f16 15) (Int32.toNatClampNeg v_8)).toInt := (congrArg Int32.toInt ev_126).trans (congrArg (fun z : Nat → Int32 => (z (Int32.toNatClampNeg v_8)).toInt) (show f16 15 = (f16 15) from rfl))
                  refine lv_iadd hx hb dX12_readTune_132 ?_
                  refine lv_topi (fun v_129 ev_129 => ?_)
                  have q_130 : v_129.toInt = v_123.toInt + v_126.toInt := ow_add ev_129 (by omega) (by omega)
                  refine lv_iload hx hb dX12_readTune_133 (lv_at hl 1 rfl) ?_
                  have q_131 : vp_in v_129 1200 := vp_in_iff.mpr ⟨by omega, by omega⟩
                  refine ms_16 hx hb hK hP hD hS q_131 dX12_readTune_135 (fun H locs hP hD hS => ?_)
                  have hf := MIf.up 16 (i := (Int32.toNatClampNeg v_129)) hf (ow_any r_u_118)
                  have hF_0 := FF.up hF_0 16 (upd (f16 16) (Int32.toNatClampNeg v_129) r_u_118) (by decide)
                  have hY_16 := FF.up hY_16 16 (upd (f16 16) (Int32.toNatClampNeg v_129) r_u_118) (by decide)
                  have hL : WL v119 (va_up f16 16 (upd (f16 16) (Int32.toNatClampNeg v_129) r_u_118)) := WL.upf 16 hL (by decide)
                  have hR : RI v119 (va_up f16 16 (upd (f16 16) (Int32.toNatClampNeg v_129) r_u_118)) := RI.up 16 hR (by decide)
                  refine lv_aload_n hx hb dX12_readTune_136 rfl (lv_at hl 4 rfl) ?_
                  refine mg_17 hx hb ht hown hK hP dX12_readTune_137 ?_
                  refine lv_bipush (v := 40) hx hb dX12_readTune_140 (by decide) ?_
                  refine lv_iload_n hx hb dX12_readTune_142 rfl (lv_at hl 3 rfl) ?_
                  refine lv_imul hx hb dX12_readTune_143 ?_
                  refine lv_topi (fun v_132 ev_132 => ?_)
                  have q_133 : v_132.toInt = 40 * v_8.toInt := ow_mul ev_132 (by decide) (by omega) (by omega)
                  refine lv_aload_n hx hb dX12_readTune_144 rfl (lv_at hl 4 rfl) ?_
                  refine mg_15 hx hb ht hown hK hP dX12_readTune_145 ?_
                  refine lv_iload_n hx hb dX12_readTune_148 rfl (lv_at hl 3 rfl) ?_
                  have q_134 : vp_in v_8 30 := vp_in_iff.mpr ⟨by omega, by omega⟩
                  refine ml_15 hx hb hK hP q_134 dX12_readTune_149 ?_
                  refine lv_topi (fun v_135 ev_135 => ?_)
                  have q_136 : 0 ≤ v_135.toInt ∧ v_135.toInt ≤ 12 := by rw [ev_135]; exact MIf.rd 15 hf q_134
                  have q_137 : v_135.toInt = ((f16 15) (Int32.toNatClampNeg v_8)).toInt := (congrArg Int32.toInt ev_135).trans (congrArg (fun z : Nat → Int32 => (z (Int32.toNatClampNeg v_8)).toInt) (show (va_up f16 16 (upd (f16 16) (Int32.toNatClampNeg v_129) r_u_118)) 15 = (f16 15) from rfl))
                  refine lv_iadd hx hb dX12_readTune_150 ?_
                  refine lv_topi (fun v_138 ev_138 => ?_)
                  have q_139 : v_138.toInt = v_132.toInt + v_135.toInt := ow_add ev_138 (by omega) (by omega)
                  refine lv_iload hx hb dX12_readTune_151 (lv_at hl 0 rfl) ?_
                  have q_140 : vp_in v_138 1200 := vp_in_iff.mpr ⟨by omega, by omega⟩
                  refine ms_17 hx hb hK hP hD hS q_140 dX12_readTune_153 (fun H locs hP hD hS => ?_)
                  have hf := MIf.up 17 (i := (Int32.toNatClampNeg v_138)) hf (show 0 ≤ r_u_119.toInt ∧ r_u_119.toInt ≤ 9 from by omega)
                  have hF_0 := FF.up hF_0 17 (upd ((va_up f16 16 (upd (f16 16) (Int32.toNatClampNeg v_129) r_u_118)) 17) (Int32.toNatClampNeg v_138) r_u_119) (by decide)
                  have hY_16 := FF.up hY_16 17 (upd ((va_up f16 16 (upd (f16 16) (Int32.toNatClampNeg v_129) r_u_118)) 17) (Int32.toNatClampNeg v_138) r_u_119) (by decide)
                  have hL : WL v119 (va_up (va_up f16 16 (upd (f16 16) (Int32.toNatClampNeg v_129) r_u_118)) 17 (upd ((va_up f16 16 (upd (f16 16) (Int32.toNatClampNeg v_129) r_u_118)) 17) (Int32.toNatClampNeg v_138) r_u_119)) := WL.upf 17 hL (by decide)
                  have hR : RI v119 (va_up (va_up f16 16 (upd (f16 16) (Int32.toNatClampNeg v_129) r_u_118)) 17 (upd ((va_up f16 16 (upd (f16 16) (Int32.toNatClampNeg v_129) r_u_118)) 17) (Int32.toNatClampNeg v_138) r_u_119)) := RI.up 17 hR (by decide)
                  refine lv_aload_n hx hb dX12_readTune_154 rfl (lv_at hl 4 rfl) ?_
                  refine mg_15 hx hb ht hown hK hP dX12_readTune_155 ?_
                  refine lv_iload_n hx hb dX12_readTune_158 rfl (lv_at hl 3 rfl) ?_
                  refine lv_dup2_11 hx hb dX12_readTune_159 rfl rfl ?_
                  have q_141 : vp_in v_8 30 := vp_in_iff.mpr ⟨by omega, by omega⟩
                  refine ml_15 hx hb hK hP q_141 dX12_readTune_160 ?_
                  refine lv_topi (fun v_142 ev_142 => ?_)
                  have q_143 : 0 ≤ v_142.toInt ∧ v_142.toInt ≤ 12 := by rw [ev_142]; exact MIf.rd 15 hf q_141
                  have q_144 : v_142.toInt = ((f16 15) (Int32.toNatClampNeg v_8)).toInt := (congrArg Int32.toInt ev_142).trans (congrArg (fun z : Nat → Int32 => (z (Int32.toNatClampNeg v_8)).toInt) (show (va_up (va_up f16 16 (upd (f16 16) (Int32.toNatClampNeg v_129) r_u_118)) 17 (upd ((va_up f16 16 (upd (f16 16) (Int32.toNatClampNeg v_129) r_u_118)) 17) (Int32.toNatClampNeg v_138) r_u_119)) 15 = (f16 15) from rfl))
                  refine lv_iconst (v := 1) hx hb dX12_readTune_161 (by decide) ?_
                  refine lv_iadd hx hb dX12_readTune_162 ?_
                  refine lv_topi (fun v_145 ev_145 => ?_)
                  have q_146 : v_145.toInt = v_142.toInt + (1 : Int32).toInt := ow_add ev_145 (by omega) (by omega)
                  have q_147 : vp_in v_8 30 := vp_in_iff.mpr ⟨by omega, by omega⟩
                  refine ms_15 hx hb hK hP hD hS q_147 dX12_readTune_163 (fun H locs hP hD hS => ?_)
                  have hf := MIf.up 15 (i := (Int32.toNatClampNeg v_8)) hf (show 0 ≤ v_145.toInt ∧ v_145.toInt ≤ 12 from by omega)
                  have hF_0 := FF.up hF_0 15 (upd ((va_up (va_up f16 16 (upd (f16 16) (Int32.toNatClampNeg v_129) r_u_118)) 17 (upd ((va_up f16 16 (upd (f16 16) (Int32.toNatClampNeg v_129) r_u_118)) 17) (Int32.toNatClampNeg v_138) r_u_119)) 15) (Int32.toNatClampNeg v_8) v_145) (by decide)
                  have hY_16 := FF.up hY_16 15 (upd ((va_up (va_up f16 16 (upd (f16 16) (Int32.toNatClampNeg v_129) r_u_118)) 17 (upd ((va_up f16 16 (upd (f16 16) (Int32.toNatClampNeg v_129) r_u_118)) 17) (Int32.toNatClampNeg v_138) r_u_119)) 15) (Int32.toNatClampNeg v_8) v_145) (by decide)
                  have hL : WL v119 (va_up (va_up (va_up f16 16 (upd (f16 16) (Int32.toNatClampNeg v_129) r_u_118)) 17 (upd ((va_up f16 16 (upd (f16 16) (Int32.toNatClampNeg v_129) r_u_118)) 17) (Int32.toNatClampNeg v_138) r_u_119)) 15 (upd ((va_up (va_up f16 16 (upd (f16 16) (Int32.toNatClampNeg v_129) r_u_118)) 17 (upd ((va_up f16 16 (upd (f16 16) (Int32.toNatClampNeg v_129) r_u_118)) 17) (Int32.toNatClampNeg v_138) r_u_119)) 15) (Int32.toNatClampNeg v_8) v_145)) := WL.upf 15 hL (by decide)
                  have hR : RI v119 (va_up (va_up (va_up f16 16 (upd (f16 16) (Int32.toNatClampNeg v_129) r_u_118)) 17 (upd ((va_up f16 16 (upd (f16 16) (Int32.toNatClampNeg v_129) r_u_118)) 17) (Int32.toNatClampNeg v_138) r_u_119)) 15 (upd ((va_up (va_up f16 16 (upd (f16 16) (Int32.toNatClampNeg v_129) r_u_118)) 17 (upd ((va_up f16 16 (upd (f16 16) (Int32.toNatClampNeg v_129) r_u_118)) 17) (Int32.toNatClampNeg v_138) r_u_119)) 15) (Int32.toNatClampNeg v_8) v_145)) := RI.up 15 hR (by decide)
                  refine lv_goto (tgt := 53) hx hb dX12_readTune_164 (by decide) ?_
                  refine W.widen (k := 0) (n := 0) (Nat.le_of_ble_eq_true rfl) (Nat.le_of_ble_eq_true rfl) ?_
                  exact ih_16 v119 nm119 (va_up (va_up (va_up f16 16 (upd (f16 16) (Int32.toNatClampNeg v_129) r_u_118)) 17 (upd ((va_up f16 16 (upd (f16 16) (Int32.toNatClampNeg v_129) r_u_118)) 17) (Int32.toNatClampNeg v_138) r_u_119)) 15 (upd ((va_up (va_up f16 16 (upd (f16 16) (Int32.toNatClampNeg v_129) r_u_118)) 17 (upd ((va_up f16 16 (upd (f16 16) (Int32.toNatClampNeg v_129) r_u_118)) 17) (Int32.toNatClampNeg v_138) r_u_119)) 15) (Int32.toNatClampNeg v_8) v_145)) g16 _ _ _ hv hf hR hL hW_16 hY_16 (show (v119 7).toInt ≤ (v 3).toInt ∧ ((v119 4).toInt ≠ 0 ∨ (v 4).toInt = 0) ∧ 0 ≤ mz (v 3).toInt (v119 7).toInt (v119 8).toInt ∧ mz (v 3).toInt (v119 7).toInt (v119 8).toInt ≤ mz (v 3).toInt (v 7).toInt (v 8).toInt from by omega) (show (mz (v 3).toInt (v119 7).toInt (v119 8).toInt).toNat < N_16 from by omega) hP hD hS (lv_sub hl [2, 3, 4] rfl)
                · have q_148 : r_u_120.toInt = (0 : Int32).toInt := (ow_eq _ _).mp c_121
                  refine W.widen (k := 0) (n := 0) (Nat.le_of_ble_eq_true rfl) (Nat.le_of_ble_eq_true rfl) ?_
                  exact W.vret hx hb hr (fun t ht9 hW => ⟨⟨(v119, nm119, f16, g16), rfl, ⟨hv, hf, hR, hL, hV_0, hF_0, (show (v119 7).toInt ≤ (v 3).toInt ∧ ((v119 4).toInt ≠ 0 ∨ (v 4).toInt = 0) from by first | omega | (subst_vars; first | rfl | omega)), (show 0 ≤ mz (v 3).toInt (v119 7).toInt (v119 8).toInt ∧ mz (v 3).toInt (v119 7).toInt (v119 8).toInt ≤ mz (v 3).toInt (v 7).toInt (v 8).toInt from by omega)⟩, ⟨by rw [ht9]; exact hP, hD⟩⟩, hS.F ht9⟩) hS.2.2 dX12_readTune_117
    exact lp_16 _ v14 nm14 (va_up f 15 (upd (f 15) (Int32.toNatClampNeg v_8) 0)) g _ _ _ hv hf hR hL FV.rf FF.rf (show (v14 7).toInt ≤ (v 3).toInt ∧ ((v14 4).toInt ≠ 0 ∨ (v 4).toInt = 0) ∧ 0 ≤ mz (v 3).toInt (v14 7).toInt (v14 8).toInt ∧ mz (v 3).toInt (v14 7).toInt (v14 8).toInt ≤ mz (v 3).toInt (v 7).toInt (v 8).toInt from by omega) (Nat.lt_succ_self _) hP hD hS (lv_sub hl [0, 1, 2] rfl)
  refine lv_if_lt (tgt := 30) hx hb dX12_readTune_23 (by decide) (fun c_149 => ?_) (fun c_149 => ?_)
  · have q_150 : r_u_10.toInt < (0 : Int32).toInt := (ow_lt _ _).mp c_149
    refine lv_iconst (v := 0) hx hb dX12_readTune_30 (by decide) ?_
    refine W.widen (k := 0) (n := 0) (Nat.le_of_ble_eq_true rfl) (Nat.le_of_ble_eq_true rfl) ?_
    exact jn_11 (0) _ _ _ (by omega) hP hD hS (lv_sub hl [0, 1] rfl)
  · have q_151 : (0 : Int32).toInt ≤ r_u_10.toInt := by have := (not_congr (ow_lt _ _)).mp c_149; omega
    refine lv_iconst (v := 1) hx hb dX12_readTune_26 (by decide) ?_
    refine lv_goto (tgt := 31) hx hb dX12_readTune_27 (by decide) ?_
    refine W.widen (k := 0) (n := 0) (Nat.le_of_ble_eq_true rfl) (Nat.le_of_ble_eq_true rfl) ?_
    exact jn_11 (1) _ _ _ (by omega) hP hD hS (lv_sub hl [0, 1] rfl)
set_option maxHeartbeats 4000000 in
set_option maxRecDepth 100000 in
theorem m_readSweet (l : Launch) (G : va_G) (cy : Nat → ClassId) (sz : Nat) (mo : Nat) (h : Nat → Nat) (T : Int) (v : Nat → Int32) (nm : Int64) (f : Nat → Nat → Int32) (g : Nat → Nat → Int64)   (hv : MIv T v) (hf : MIf f) (hR : RI v f) (hL : WL v f) (he : (v 7).toInt ≤ (v 3).toInt) : Met l yX12_readSweet (.code yX12_readSweet cX12_readSweet 4 none :: TBg) ({ frames := 4, cells := 0, slots := 0, locals := 256 }) (va_Pc [.ref mo] (En G cy (WMs cy mo h v nm f g) sz)) (va_Qv (fun (u : (Nat → Int32) × Int64 × (Nat → Nat → Int32) × (Nat → Nat → Int64)) => MIv T u.1 ∧ MIf u.2.2.1 ∧ RI u.1 u.2.2.1 ∧ WL u.1 u.2.2.1 ∧ FV [4, 5, 6, 7, 8, 9] v u.1 ∧ FF [14, 21] f u.2.2.1 ∧ (((u.1 7).toInt ≤ (v 3).toInt ∧ ((u.1 4).toInt ≠ 0 ∨ (v 4).toInt = 0))) ∧ (0 ≤ mz (v 3).toInt (u.1 7).toInt (u.1 8).toInt ∧ mz (v 3).toInt (u.1 7).toInt (u.1 8).toInt ≤ mz (v 3).toInt (v 7).toInt (v 8).toInt)) (fun u t => Ex G (va_A (WMs cy mo h v nm f g) sz) (WMs cy mo h u.1 u.2.1 u.2.2.1 u.2.2.2) t) (va_A (WMs cy mo h v nm f g) sz)) 0 0 (va_A (WMs cy mo h v nm f g) sz) := by
  refine Met.ofW (cc := cX12_readSweet) (maxL := 4) (ret := none) (by decide) rfl ?_
  intro p e s m args below meth c s₁ B hml hv9
  obtain ⟨rfl, hsz, hP, hK, hD0, hN⟩ := hv9
  have hx := B.exec
  have hb := B.bytes
  have hr := B.returns
  have hts := atoms_spec (ws := .code yX12_readSweet cX12_readSweet 4 none :: TBg) B.pre
  have ht : ∀ w ∈ TBg, w.before _ s = true := fun w h => hts w (List.mem_cons_of_mem _ h)
  have hown : s.vm.findClass RX12 = some m.cls := findClass_of_methodNamed B.named
  have hlocks := B.notSynchronized
  subst hsz
  have hD := hD0.self (sz := s.heap.size)
  generalize hAe : va_A (WMs cy mo h v nm f g) s.heap.size = A at hD ⊢
  have hA : ∀ q : Nat, s.heap.size ≤ q → A q := fun q h => by rw [← hAe]; exact Or.inr h
  have hS : va_S A s.heap s.heap [] := va_S.rf
  have hl := lv_entry ([.ref mo]) (n := 4) (Nat.le_of_ble_eq_true rfl)
  rw [lg_entry_eq]
  generalize (lg_sl ([.ref mo]) ++ List.replicate (4 - (lg_sl ([.ref mo])).length) Slot.unset).toArray = ls at hl ⊢
  have hl : lv_has ls 4 [(0, .ref mo)] := hl
  have z0 : (0 : Int32).toInt = 0 := by decide
  have z1 : (1 : Int32).toInt = 1 := by decide
  have z2 : (3 : Int32).toInt = 3 := by decide
  have z3 : (4 : Int32).toInt = 4 := by decide
  have z4 : (11 : Int32).toInt = 11 := by decide
  have z5 : (12 : Int32).toInt = 12 := by decide
  have hf_0 := hf
  have hV_0 : FV [4, 5, 6, 7, 8, 9] v v := FV.rf
  have hF_0 : FF [14, 21] f f := FF.rf
  have hmz0 : 0 ≤ mz (v 3).toInt (v 7).toInt (v 8).toInt := mz_nn he
  refine lv_aload_n hx hb dX12_readSweet_0 rfl (lv_at hl 0 rfl) ?_
  refine mg_21 hx hb ht hown hK hP dX12_readSweet_1 ?_
  refine lv_aload_n hx hb dX12_readSweet_4 rfl (lv_at hl 0 rfl) ?_
  refine mg_30 hx hb ht hown hK hP dX12_readSweet_5 ?_
  have q_1 : 0 ≤ (v 30).toInt ∧ (v 30).toInt ≤ 1 := hv 30
  refine lv_iconst (v := 1) hx hb dX12_readSweet_8 (by decide) ?_
  have q_2 : vp_in (v 30) 2 := vp_in_iff.mpr ⟨by omega, by omega⟩
  refine ms_21 hx hb hK hP hD hS q_2 dX12_readSweet_9 (fun H locs hP hD hS => ?_)
  have hf := MIf.up 21 (i := (Int32.toNatClampNeg (v 30))) hf (ow_any (vp_nar .boolean 1))
  have hF_0 := FF.up hF_0 21 (upd (f 21) (Int32.toNatClampNeg (v 30)) (vp_nar .boolean 1)) (by decide)
  have hL : WL v (va_up f 21 (upd (f 21) (Int32.toNatClampNeg (v 30)) (vp_nar .boolean 1))) := WL.upf 21 hL (by decide)
  have hR : RI v (va_up f 21 (upd (f 21) (Int32.toNatClampNeg (v 30)) (vp_nar .boolean 1))) := RI.up 21 hR (by decide)
  refine lv_iconst (v := 0) hx hb dX12_readSweet_10 (by decide) ?_
  refine lv_istore_n (lv' := [(1, .int 0), (0, .ref mo)]) hx hb dX12_readSweet_11 rfl hl (by decide) rfl (fun ls hl => ?_)
  refine lv_iconst (v := 0) hx hb dX12_readSweet_12 (by decide) ?_
  refine lv_istore_n (lv' := [(2, .int 0), (1, .int 0), (0, .ref mo)]) hx hb dX12_readSweet_13 rfl hl (by decide) rfl (fun ls hl => ?_)
  refine W.widen (k := 0) (n := 0) (Nat.le_of_ble_eq_true rfl) (Nat.le_of_ble_eq_true rfl) ?_
  have lp_3 : ∀ (N_3 : Nat) (x2_3 : Int32) (x1_3 : Int32) (v3 : Nat → Int32) (nm3 : Int64) (f3 : Nat → Nat → Int32) (g3 : Nat → Nat → Int64) (H : Heap) (locs : List Loc) (ls : Array Slot), MIv T v3 → MIf f3 → RI v3 f3 → WL v3 f3 → FV [4, 5, 6, 7, 8, 9] v v3 → FF [] (va_up f 21 (upd (f 21) (Int32.toNatClampNeg (v 30)) (vp_nar .boolean 1))) f3 → ((v3 7).toInt ≤ (v 3).toInt ∧ ((v3 4).toInt ≠ 0 ∨ (v 4).toInt = 0) ∧ 0 ≤ mz (v 3).toInt (v3 7).toInt (v3 8).toInt ∧ mz (v 3).toInt (v3 7).toInt (v3 8).toInt ≤ mz (v 3).toInt (v 7).toInt (v 8).toInt) → tkm (mz (v 3).toInt (v3 7).toInt (v3 8).toInt) (v3 4).toInt < N_3 → va_P G vwCl (WMs cy mo h v3 nm3 f3 g3) H → va_D A (WMs cy mo h v3 nm3 f3 g3) → va_S A s.heap H locs → lv_has ls 4 [(2, .int x2_3), (1, .int x1_3), (0, .ref mo)] → W p l e (headSpec (.code yX12_readSweet cX12_readSweet 4 none :: TBg) ({ frames := 4, cells := 0, slots := 0, locals := 256 })).room s m ([.ref mo] : List Value).toArray below meth c H locs 0 0 (MQ below (va_Qv (fun (u : (Nat → Int32) × Int64 × (Nat → Nat → Int32) × (Nat → Nat → Int64)) => MIv T u.1 ∧ MIf u.2.2.1 ∧ RI u.1 u.2.2.1 ∧ WL u.1 u.2.2.1 ∧ FV [4, 5, 6, 7, 8, 9] v u.1 ∧ FF [14, 21] f u.2.2.1 ∧ (((u.1 7).toInt ≤ (v 3).toInt ∧ ((u.1 4).toInt ≠ 0 ∨ (v 4).toInt = 0))) ∧ (0 ≤ mz (v 3).toInt (u.1 7).toInt (u.1 8).toInt ∧ mz (v 3).toInt (u.1 7).toInt (u.1 8).toInt ≤ mz (v 3).toInt (v 7).toInt (v 8).toInt)) (fun u t => Ex G A (WMs cy mo h u.1 u.2.1 u.2.2.1 u.2.2.2) t) A) ([.ref mo] : List Value).toArray s 0 0 A) (F0 m 14 ls []) := by
    intro N_3
    induction N_3 with
    | zero => intro x2_3 x1_3 v3 nm3 f3 g3 H locs ls hv hf hR hL hV_3 hF_3 qf3_0 hm hP hD hS hl; exact absurd hm (Nat.not_lt_zero _)
    | succ N_3 ih_3 =>
      intro x2_3 x1_3 v3 nm3 f3 g3 H locs ls hv hf hR hL hV_3 hF_3 qf3_0 hm hP hD hS hl
      have hV_0 := FV.tr hV_0 hV_3 (by decide)
      have hF_0 := FF.tr hF_0 hF_3 (by decide)
      have hW_3 := hV_3
      have hY_3 := hF_3
      refine lv_aload_n hx hb dX12_readSweet_14 rfl (lv_at hl 2 rfl) ?_
      have hFc := fr_new hS hA
      refine va_calli (va_runV (As := []) (rest := []) ⟨hx, hb, hml, hown, ht⟩ (m_isGood l G cy _ mo h T v3 nm3 f3 g3   hv hf hR hL) (cwV 0 ht (gv k_224 k_225 k_226 k_61 k_223) rfl rfl rfl (by decide +kernel) ⟨Nat.le_of_ble_eq_true rfl, Nat.le_of_ble_eq_true rfl⟩) ⟨En.blind, va_recv hK hP (ci := 12) (q0 := 0) rfl rfl, fun U hU hW => ⟨rfl, En.of hU hW hP hK hD hN⟩⟩ rfl rfl hl.1 rfl (lv_room (Nat.le_of_ble_eq_true rfl)) dX12_readSweet_15 ⟨Nat.le_of_ble_eq_true rfl, Nat.le_of_ble_eq_true rfl⟩) hS (fun q _ h => hFc q h) hFc (fun r_u_4 u_4 t9 H locs ht9 hvm hw hB hz1 hk1 hS => ?_)
      have hP := fr_keep hP hk1
      have wu_4 := hw
      clear hFc hk1 hz1 hB hw
      have wu_4 : (r_u_4.toInt = 0 ∨ r_u_4.toInt = 1) ∧ ((r_u_4.toInt = 1 ∧ (v3 4).toInt = 0) ∨ (r_u_4.toInt = 0 ∧ (v3 4).toInt ≠ 0)) := wu_4
      refine lv_if_eq (tgt := 108) hx hb dX12_readSweet_18 (by decide) (fun c_5 => ?_) (fun c_5 => ?_)
      · have q_6 : r_u_4.toInt = (0 : Int32).toInt := (ow_eq _ _).mp c_5
        refine lv_aload_n hx hb dX12_readSweet_108 rfl (lv_at hl 2 rfl) ?_
        refine mg_14 hx hb ht hown hK hP dX12_readSweet_109 ?_
        refine lv_aload_n hx hb dX12_readSweet_112 rfl (lv_at hl 2 rfl) ?_
        refine mg_30 hx hb ht hown hK hP dX12_readSweet_113 ?_
        refine ow_top (v 30) (hV_3 30 (by decide)) ?_
        have q_7 : 0 ≤ (v 30).toInt ∧ (v 30).toInt ≤ 1 := by have h9 : v3 30 = (v 30) := (hV_3 30 (by decide)); rw [← h9]; exact hv 30
        refine lv_iload_n hx hb dX12_readSweet_116 rfl (lv_at hl 1 rfl) ?_
        have q_8 : vp_in (v 30) 2 := vp_in_iff.mpr ⟨by omega, by omega⟩
        refine ms_14 hx hb hK hP hD hS q_8 dX12_readSweet_117 (fun H locs hP hD hS => ?_)
        have hf := MIf.up 14 (i := (Int32.toNatClampNeg (v 30))) hf (ow_any x1_3)
        have hF_0 := FF.up hF_0 14 (upd (f3 14) (Int32.toNatClampNeg (v 30)) x1_3) (by decide)
        have hL : WL v3 (va_up f3 14 (upd (f3 14) (Int32.toNatClampNeg (v 30)) x1_3)) := WL.upf 14 hL (by decide)
        have hR : RI v3 (va_up f3 14 (upd (f3 14) (Int32.toNatClampNeg (v 30)) x1_3)) := RI.up 14 hR (by decide)
        refine W.widen (k := 0) (n := 0) (Nat.le_of_ble_eq_true rfl) (Nat.le_of_ble_eq_true rfl) ?_
        exact W.vret hx hb hr (fun t ht9 hW => ⟨⟨(v3, nm3, (va_up f3 14 (upd (f3 14) (Int32.toNatClampNeg (v 30)) x1_3)), g3), rfl, ⟨hv, hf, hR, hL, hV_0, hF_0, (show (v3 7).toInt ≤ (v 3).toInt ∧ ((v3 4).toInt ≠ 0 ∨ (v 4).toInt = 0) from by first | omega | (subst_vars; first | rfl | omega)), (show 0 ≤ mz (v 3).toInt (v3 7).toInt (v3 8).toInt ∧ mz (v 3).toInt (v3 7).toInt (v3 8).toInt ≤ mz (v 3).toInt (v 7).toInt (v 8).toInt from by omega)⟩, ⟨by rw [ht9]; exact hP, hD⟩⟩, hS.F ht9⟩) hS.2.2 dX12_readSweet_118
      · have q_9 : ¬ r_u_4.toInt = (0 : Int32).toInt := by have := (not_congr (ow_eq _ _)).mp c_5; omega
        refine lv_iload_n hx hb dX12_readSweet_21 rfl (lv_at hl 0 rfl) ?_
        refine lv_if_eq (tgt := 33) hx hb dX12_readSweet_22 (by decide) (fun c_10 => ?_) (fun c_10 => ?_)
        · have q_11 : x2_3.toInt = (0 : Int32).toInt := (ow_eq _ _).mp c_10
          refine W.widen (k := 0) (n := 0) (Nat.le_of_ble_eq_true rfl) (Nat.le_of_ble_eq_true rfl) ?_
          have jn_12 : ∀ (v12 : Nat → Int32) (nm12 : Int64) (H : Heap) (locs : List Loc) (ls : Array Slot), MIv T v12 → FV [4, 5] v3 v12 → ((v12 4).toInt ≠ 0 ∨ (v 4).toInt = 0) → va_P G vwCl (WMs cy mo h v12 nm12 f3 g3) H → va_D A (WMs cy mo h v12 nm12 f3 g3) → va_S A s.heap H locs → lv_has ls 4 [(2, .int x2_3), (1, .int x1_3), (0, .ref mo)] → W p l e (headSpec (.code yX12_readSweet cX12_readSweet 4 none :: TBg) ({ frames := 4, cells := 0, slots := 0, locals := 256 })).room s m ([.ref mo] : List Value).toArray below meth c H locs 0 0 (MQ below (va_Qv (fun (u : (Nat → Int32) × Int64 × (Nat → Nat → Int32) × (Nat → Nat → Int64)) => MIv T u.1 ∧ MIf u.2.2.1 ∧ RI u.1 u.2.2.1 ∧ WL u.1 u.2.2.1 ∧ FV [4, 5, 6, 7, 8, 9] v u.1 ∧ FF [14, 21] f u.2.2.1 ∧ (((u.1 7).toInt ≤ (v 3).toInt ∧ ((u.1 4).toInt ≠ 0 ∨ (v 4).toInt = 0))) ∧ (0 ≤ mz (v 3).toInt (u.1 7).toInt (u.1 8).toInt ∧ mz (v 3).toInt (u.1 7).toInt (u.1 8).toInt ≤ mz (v 3).toInt (v 7).toInt (v 8).toInt)) (fun u t => Ex G A (WMs cy mo h u.1 u.2.1 u.2.2.1 u.2.2.2) t) A) ([.ref mo] : List Value).toArray s 0 0 A) (F0 m 88 ls []) := by
            intro v12 nm12 H locs ls hv hV_12 qf12_0 hP hD hS hl
            have hR : RI v12 f3 := RI.fv hR hV_12 (by decide)
            have hL : WL v12 f3 := WL.fv hL hV_12 (by decide) (by decide)
            have hV_0 := FV.tr hV_0 hV_12 (by decide)
            have hW_3 := FV.tr hW_3 hV_12 (by decide)
            refine lv_aload_n hx hb dX12_readSweet_88 rfl (lv_at hl 2 rfl) ?_
            refine lv_iconst (v := 0) hx hb dX12_readSweet_89 (by decide) ?_
            refine lv_bipush (v := 11) hx hb dX12_readSweet_90 (by decide) ?_
            have hFc := fr_free hD hS hA
            refine va_calli (va_runV (As := [.int 0, .int 11]) (rest := []) ⟨hx, hb, hml, hown, ht⟩ (m_numeral l G cy _ mo h T v12 nm12 f3 g3 (0) (11)  hv hf hR hL (show (0 : Int32).toInt ≤ (11 : Int32).toInt from by omega) (show (v12 7).toInt ≤ (v12 3).toInt from by rw [(show v12 7 = (v3 7) from (hV_12 7 (by decide))), (show v12 3 = (v 3) from ((hV_12 3 (by decide)).trans (hV_3 3 (by decide))))]; omega)) (cwV 2 ht (gv k_288 k_289 k_290 k_61 k_287) rfl rfl rfl (by decide +kernel) ⟨Nat.le_of_ble_eq_true rfl, Nat.le_of_ble_eq_true rfl⟩) ⟨En.blind, va_recv hK hP (ci := 12) (q0 := 0) rfl rfl, fun U hU hW => ⟨rfl, En.of hU hW hP hK hD hN⟩⟩ rfl rfl hl.1 rfl (lv_room (Nat.le_of_ble_eq_true rfl)) dX12_readSweet_92 ⟨Nat.le_of_ble_eq_true rfl, Nat.le_of_ble_eq_true rfl⟩) hS (fun q _ h => hFc q h) hFc (fun r_u_13 u_13 t9 H locs ht9 hvm hw hB hz1 hk1 hS => ?_)
            obtain ⟨v13, nm13⟩ := u_13
            obtain ⟨hP1, hD1⟩ := hB
            rw [ht9] at hP1
            obtain ⟨hv, xu_13V, wu_13, xu_13_M⟩ := hw
            dsimp only at hv xu_13V wu_13 xu_13_M
            have hP : va_P G vwCl (WMs cy mo h v13 nm13 f3 g3) H := hP1
            have hD : va_D A (WMs cy mo h v13 nm13 f3 g3) := hD1.weaken (fun _ _ _ h => hFc _ h)
            have hR : RI v13 f3 := RI.fv hR xu_13V (by decide)
            have hL : WL v13 f3 := WL.fv hL xu_13V (by decide) (by decide)
            have hV_0 := FV.tr hV_0 xu_13V (by decide)
            have hW_3 := FV.tr hW_3 xu_13V (by decide)
            clear hFc hk1 hz1 hP1 hD1
            have wu_13 : ((0 : Int32).toInt ≤ r_u_13.toInt ∧ r_u_13.toInt ≤ (11 : Int32).toInt ∧ (v13 7).toInt ≤ (v 3).toInt ∧ ((v13 4).toInt ≠ 0 ∨ ((v12 4).toInt = 0 ∧ (v3 8).toInt = 4))) := by
              have h9 : ((0 : Int32).toInt ≤ r_u_13.toInt ∧ r_u_13.toInt ≤ (11 : Int32).toInt ∧ (v13 7).toInt ≤ (v12 3).toInt ∧ ((v13 4).toInt ≠ 0 ∨ ((v12 4).toInt = 0 ∧ (v12 8).toInt = 4))) := wu_13
              rw [(show v12 3 = (v 3) from ((hV_12 3 (by decide)).trans (hV_3 3 (by decide)))), (show v12 8 = (v3 8) from (hV_12 8 (by decide)))] at h9
              exact h9
            have xu_13_M : 0 ≤ mz (v 3).toInt (v13 7).toInt (v13 8).toInt ∧ mz (v 3).toInt (v13 7).toInt (v13 8).toInt ≤ mz (v 3).toInt (v3 7).toInt (v3 8).toInt ∧ ((v13 4).toInt ≠ 0 ∨ mz (v 3).toInt (v13 7).toInt (v13 8).toInt < mz (v 3).toInt (v3 7).toInt (v3 8).toInt) := by
              have h9 : 0 ≤ mz (v12 3).toInt (v13 7).toInt (v13 8).toInt ∧ mz (v12 3).toInt (v13 7).toInt (v13 8).toInt ≤ mz (v12 3).toInt (v12 7).toInt (v12 8).toInt ∧ ((v13 4).toInt ≠ 0 ∨ mz (v12 3).toInt (v13 7).toInt (v13 8).toInt < mz (v12 3).toInt (v12 7).toInt (v12 8).toInt) := xu_13_M
              rw [(show v12 3 = (v 3) from ((hV_12 3 (by decide)).trans (hV_3 3 (by decide)))), (show v12 7 = (v3 7) from (hV_12 7 (by decide))), (show v12 8 = (v3 8) from (hV_12 8 (by decide)))] at h9
              exact h9
            refine lv_istore_n (lv' := [(3, .int r_u_13), (2, .int x2_3), (1, .int x1_3), (0, .ref mo)]) hx hb dX12_readSweet_95 rfl hl (by decide) rfl (fun ls hl => ?_)
            refine lv_iload_n hx hb dX12_readSweet_96 rfl (lv_at hl 2 rfl) ?_
            refine lv_iconst (v := 1) hx hb dX12_readSweet_97 (by decide) ?_
            refine lv_iload_n hx hb dX12_readSweet_98 rfl (lv_at hl 0 rfl) ?_
            refine lv_ishl hx hb dX12_readSweet_99 ?_
            refine lv_topi (fun v_14 ev_14 => ?_)
            refine lv_ior hx hb dX12_readSweet_100 ?_
            refine lv_topi (fun v_15 ev_15 => ?_)
            refine lv_istore_n (lv' := [(1, .int v_15), (3, .int r_u_13), (2, .int x2_3), (0, .ref mo)]) hx hb dX12_readSweet_101 rfl hl (by decide) rfl (fun ls hl => ?_)
            obtain ⟨v_16, ev_16⟩ : ∃ y : Int32, y = x2_3 + 1 := ⟨_, rfl⟩
            refine lv_iinc (v := v_16) (lv' := [(2, .int v_16), (1, .int v_15), (3, .int r_u_13), (0, .ref mo)]) hx hb dX12_readSweet_102 hl (k := 2) rfl (by rw [ev_16]; rfl) (by decide) rfl (fun ls hl => ?_)
            have q_17 : v_16.toInt = x2_3.toInt + 1 := by have := ow_add ev_16 (by omega) (by omega); omega
            refine lv_goto (tgt := 14) hx hb dX12_readSweet_105 (by decide) ?_
            refine W.widen (k := 0) (n := 0) (Nat.le_of_ble_eq_true rfl) (Nat.le_of_ble_eq_true rfl) ?_
            exact ih_3 v_16 v_15 v13 nm13 f3 g3 _ _ _ hv hf hR hL hW_3 hY_3 (show (v13 7).toInt ≤ (v 3).toInt ∧ ((v13 4).toInt ≠ 0 ∨ (v 4).toInt = 0) ∧ 0 ≤ mz (v 3).toInt (v13 7).toInt (v13 8).toInt ∧ mz (v 3).toInt (v13 7).toInt (v13 8).toInt ≤ mz (v 3).toInt (v 7).toInt (v 8).toInt from by omega) (show tkm (mz (v 3).toInt (v13 7).toInt (v13 8).toInt) (v13 4).toInt < N_3 from by have h9 : tkm (mz (v 3).toInt (v13 7).toInt (v13 8).toInt) (v13 4).toInt < tkm (mz (v 3).toInt (v3 7).toInt (v3 8).toInt) (v3 4).toInt := tkm_lt (by omega) (by omega); omega) hP hD hS (lv_sub hl [0, 1, 3] rfl)
          have hW_12 : FV [4, 5] v3 v3 := FV.rf
          refine lv_iload_n hx hb dX12_readSweet_33 rfl (lv_at hl 0 rfl) ?_
          refine lv_bipush (v := 12) hx hb dX12_readSweet_34 (by decide) ?_
          refine lv_icmp_ne (tgt := 43) hx hb dX12_readSweet_36 (by decide) (fun c_18 => ?_) (fun c_18 => ?_)
          · have q_19 : ¬ x2_3.toInt = (12 : Int32).toInt := by have := (not_congr (ow_eq _ _)).mp c_18; omega
            refine lv_aload_n hx hb dX12_readSweet_43 rfl (lv_at hl 2 rfl) ?_
            have hFc := fr_new hS hA
            refine va_calli (va_runV (As := []) (rest := []) ⟨hx, hb, hml, hown, ht⟩ (m_isGood l G cy _ mo h T v3 nm3 f3 g3   hv hf hR hL) (cwV 0 ht (gv k_224 k_225 k_226 k_61 k_223) rfl rfl rfl (by decide +kernel) ⟨Nat.le_of_ble_eq_true rfl, Nat.le_of_ble_eq_true rfl⟩) ⟨En.blind, va_recv hK hP (ci := 12) (q0 := 0) rfl rfl, fun U hU hW => ⟨rfl, En.of hU hW hP hK hD hN⟩⟩ rfl rfl hl.1 rfl (lv_room (Nat.le_of_ble_eq_true rfl)) dX12_readSweet_44 ⟨Nat.le_of_ble_eq_true rfl, Nat.le_of_ble_eq_true rfl⟩) hS (fun q _ h => hFc q h) hFc (fun r_u_20 u_20 t9 H locs ht9 hvm hw hB hz1 hk1 hS => ?_)
            have hP := fr_keep hP hk1
            have wu_20 := hw
            clear hFc hk1 hz1 hB hw
            have wu_20 : (r_u_20.toInt = 0 ∨ r_u_20.toInt = 1) ∧ ((r_u_20.toInt = 1 ∧ (v3 4).toInt = 0) ∨ (r_u_20.toInt = 0 ∧ (v3 4).toInt ≠ 0)) := wu_20
            refine lv_if_eq (tgt := 88) hx hb dX12_readSweet_47 (by decide) (fun c_21 => ?_) (fun c_21 => ?_)
            · have q_22 : r_u_20.toInt = (0 : Int32).toInt := (ow_eq _ _).mp c_21
              refine W.widen (k := 0) (n := 0) (Nat.le_of_ble_eq_true rfl) (Nat.le_of_ble_eq_true rfl) ?_
              exact jn_12 v3 nm3 _ _ _ hv hW_12 (show (v3 4).toInt ≠ 0 ∨ (v 4).toInt = 0 from by omega) hP hD hS (lv_sub hl [0, 1, 2] rfl)
            · have q_23 : ¬ r_u_20.toInt = (0 : Int32).toInt := by have := (not_congr (ow_eq _ _)).mp c_21; omega
              refine lv_aload_n hx hb dX12_readSweet_50 rfl (lv_at hl 2 rfl) ?_
              refine mg_8 hx hb ht hown hK hP dX12_readSweet_51 ?_
              refine lv_iconst (v := 4) hx hb dX12_readSweet_54 (by decide) ?_
              refine lv_icmp_ne (tgt := 88) hx hb dX12_readSweet_55 (by decide) (fun c_24 => ?_) (fun c_24 => ?_)
              · have q_25 : ¬ (v3 8).toInt = (4 : Int32).toInt := by have := (not_congr (ow_eq _ _)).mp c_24; omega
                refine W.widen (k := 0) (n := 0) (Nat.le_of_ble_eq_true rfl) (Nat.le_of_ble_eq_true rfl) ?_
                exact jn_12 v3 nm3 _ _ _ hv hW_12 (show (v3 4).toInt ≠ 0 ∨ (v 4).toInt = 0 from by omega) hP hD hS (lv_sub hl [0, 1, 2] rfl)
              · have q_26 : (v3 8).toInt = (4 : Int32).toInt := (ow_eq _ _).mp c_24
                refine lv_aload_n hx hb dX12_readSweet_58 rfl (lv_at hl 2 rfl) ?_
                refine mg_9 hx hb ht hown hK hP dX12_readSweet_59 ?_
                refine lv_bipush (v := 12) hx hb dX12_readSweet_62 (by decide) ?_
                refine lv_icmp_ge (tgt := 88) hx hb dX12_readSweet_64 (by decide) (fun c_27 => ?_) (fun c_27 => ?_)
                · have q_28 : (12 : Int32).toInt ≤ (v3 9).toInt := (ow_le _ _).mp c_27
                  refine W.widen (k := 0) (n := 0) (Nat.le_of_ble_eq_true rfl) (Nat.le_of_ble_eq_true rfl) ?_
                  exact jn_12 v3 nm3 _ _ _ hv hW_12 (show (v3 4).toInt ≠ 0 ∨ (v 4).toInt = 0 from by omega) hP hD hS (lv_sub hl [0, 1, 2] rfl)
                · have q_29 : (v3 9).toInt < (12 : Int32).toInt := by have := (not_congr (ow_le _ _)).mp c_27; omega
                  refine lv_iload_n hx hb dX12_readSweet_67 rfl (lv_at hl 1 rfl) ?_
                  refine lv_aload_n hx hb dX12_readSweet_68 rfl (lv_at hl 2 rfl) ?_
                  refine mg_9 hx hb ht hown hK hP dX12_readSweet_69 ?_
                  refine lv_ishr hx hb dX12_readSweet_72 ?_
                  refine lv_topi (fun v_30 ev_30 => ?_)
                  refine lv_iconst (v := 1) hx hb dX12_readSweet_73 (by decide) ?_
                  refine lv_iand hx hb dX12_readSweet_74 ?_
                  refine lv_topi (fun v_31 ev_31 => ?_)
                  have q_32 : 0 ≤ v_31.toInt ∧ v_31.toInt ≤ 1 := by rw [ev_31]; exact ow_and1 _
                  refine lv_iconst (v := 1) hx hb dX12_readSweet_75 (by decide) ?_
                  refine lv_icmp_ne (tgt := 88) hx hb dX12_readSweet_76 (by decide) (fun c_33 => ?_) (fun c_33 => ?_)
                  · have q_34 : ¬ v_31.toInt = (1 : Int32).toInt := by have := (not_congr (ow_eq _ _)).mp c_33; omega
                    refine W.widen (k := 0) (n := 0) (Nat.le_of_ble_eq_true rfl) (Nat.le_of_ble_eq_true rfl) ?_
                    exact jn_12 v3 nm3 _ _ _ hv hW_12 (show (v3 4).toInt ≠ 0 ∨ (v 4).toInt = 0 from by omega) hP hD hS (lv_sub hl [0, 1, 2] rfl)
                  · have q_35 : v_31.toInt = (1 : Int32).toInt := (ow_eq _ _).mp c_33
                    refine lv_aload_n hx hb dX12_readSweet_79 rfl (lv_at hl 2 rfl) ?_
                    refine lv_iconst (v := 3) hx hb dX12_readSweet_80 (by decide) ?_
                    refine lv_aload_n hx hb dX12_readSweet_81 rfl (lv_at hl 2 rfl) ?_
                    refine mg_6 hx hb ht hown hK hP dX12_readSweet_82 ?_
                    have q_36 : 0 ≤ (v3 6).toInt ∧ (v3 6).toInt ≤ 1700 := hv 6
                    have hFc := fr_free hD hS hA
                    refine va_callv (va_runV (As := [.int 3, .int (v3 6)]) (rest := []) ⟨hx, hb, hml, hown, ht⟩ (m_fails l G cy _ mo h T v3 nm3 f3 g3 (3) (v3 6)  hv hf hR hL (by omega)) (cwV 2 ht (gv k_211 k_212 k_213 k_61 k_210) rfl rfl rfl (by decide +kernel) ⟨Nat.le_of_ble_eq_true rfl, Nat.le_of_ble_eq_true rfl⟩) ⟨En.blind, va_recv hK hP (ci := 12) (q0 := 0) rfl rfl, fun U hU hW => ⟨rfl, En.of hU hW hP hK hD hN⟩⟩ rfl rfl hl.1 rfl (lv_room (Nat.le_of_ble_eq_true rfl)) dX12_readSweet_85 ⟨Nat.le_of_ble_eq_true rfl, Nat.le_of_ble_eq_true rfl⟩) hS (fun q _ h => hFc q h) hFc (fun u_37 t9 H locs ht9 hvm hw hB hz1 hk1 hS => ?_)
                    obtain ⟨v37, nm37⟩ := u_37
                    obtain ⟨hP1, hD1⟩ := hB
                    rw [ht9] at hP1
                    obtain ⟨hv, xu_37V, wu_37⟩ := hw
                    dsimp only at hv xu_37V wu_37
                    have hP : va_P G vwCl (WMs cy mo h v37 nm37 f3 g3) H := hP1
                    have hD : va_D A (WMs cy mo h v37 nm37 f3 g3) := hD1.weaken (fun _ _ _ h => hFc _ h)
                    have hR : RI v37 f3 := RI.fv hR xu_37V (by decide)
                    have hL : WL v37 f3 := WL.fv hL xu_37V (by decide) (by decide)
                    have hV_0 := FV.tr hV_0 xu_37V (by decide)
                    have hW_3 := FV.tr hW_3 xu_37V (by decide)
                    have hW_12 := FV.tr hW_12 xu_37V (by decide)
                    clear hFc hk1 hz1 hP1 hD1
                    have wu_37 : (1 ≤ (v37 4).toInt) := wu_37
                    refine W.widen (k := 0) (n := 0) (Nat.le_of_ble_eq_true rfl) (Nat.le_of_ble_eq_true rfl) ?_
                    exact jn_12 v37 nm37 _ _ _ hv hW_12 (show (v37 4).toInt ≠ 0 ∨ (v 4).toInt = 0 from by omega) hP hD hS (lv_sub hl [0, 1, 2] rfl)
          · have q_38 : x2_3.toInt = (12 : Int32).toInt := (ow_eq _ _).mp c_18
            exfalso
            omega
        · have q_39 : ¬ x2_3.toInt = (0 : Int32).toInt := by have := (not_congr (ow_eq _ _)).mp c_10; omega
          refine lv_aload_n hx hb dX12_readSweet_25 rfl (lv_at hl 2 rfl) ?_
          refine mg_8 hx hb ht hown hK hP dX12_readSweet_26 ?_
          refine lv_iconst (v := 4) hx hb dX12_readSweet_29 (by decide) ?_
          refine lv_icmp_ne (tgt := 108) hx hb dX12_readSweet_30 (by decide) (fun c_40 => ?_) (fun c_40 => ?_)
          · have q_41 : ¬ (v3 8).toInt = (4 : Int32).toInt := by have := (not_congr (ow_eq _ _)).mp c_40; omega
            refine lv_aload_n hx hb dX12_readSweet_108 rfl (lv_at hl 2 rfl) ?_
            refine mg_14 hx hb ht hown hK hP dX12_readSweet_109 ?_
            refine lv_aload_n hx hb dX12_readSweet_112 rfl (lv_at hl 2 rfl) ?_
            refine mg_30 hx hb ht hown hK hP dX12_readSweet_113 ?_
            refine ow_top (v 30) (hV_3 30 (by decide)) ?_
            have q_42 : 0 ≤ (v 30).toInt ∧ (v 30).toInt ≤ 1 := by have h9 : v3 30 = (v 30) := (hV_3 30 (by decide)); rw [← h9]; exact hv 30
            refine lv_iload_n hx hb dX12_readSweet_116 rfl (lv_at hl 1 rfl) ?_
            have q_43 : vp_in (v 30) 2 := vp_in_iff.mpr ⟨by omega, by omega⟩
            refine ms_14 hx hb hK hP hD hS q_43 dX12_readSweet_117 (fun H locs hP hD hS => ?_)
            have hf := MIf.up 14 (i := (Int32.toNatClampNeg (v 30))) hf (ow_any x1_3)
            have hF_0 := FF.up hF_0 14 (upd (f3 14) (Int32.toNatClampNeg (v 30)) x1_3) (by decide)
            have hL : WL v3 (va_up f3 14 (upd (f3 14) (Int32.toNatClampNeg (v 30)) x1_3)) := WL.upf 14 hL (by decide)
            have hR : RI v3 (va_up f3 14 (upd (f3 14) (Int32.toNatClampNeg (v 30)) x1_3)) := RI.up 14 hR (by decide)
            refine W.widen (k := 0) (n := 0) (Nat.le_of_ble_eq_true rfl) (Nat.le_of_ble_eq_true rfl) ?_
            exact W.vret hx hb hr (fun t ht9 hW => ⟨⟨(v3, nm3, (va_up f3 14 (upd (f3 14) (Int32.toNatClampNeg (v 30)) x1_3)), g3), rfl, ⟨hv, hf, hR, hL, hV_0, hF_0, (show (v3 7).toInt ≤ (v 3).toInt ∧ ((v3 4).toInt ≠ 0 ∨ (v 4).toInt = 0) from by first | omega | (subst_vars; first | rfl | omega)), (show 0 ≤ mz (v 3).toInt (v3 7).toInt (v3 8).toInt ∧ mz (v 3).toInt (v3 7).toInt (v3 8).toInt ≤ mz (v 3).toInt (v 7).toInt (v 8).toInt from by omega)⟩, ⟨by rw [ht9]; exact hP, hD⟩⟩, hS.F ht9⟩) hS.2.2 dX12_readSweet_118
          · have q_44 : (v3 8).toInt = (4 : Int32).toInt := (ow_eq _ _).mp c_40
            refine W.widen (k := 0) (n := 0) (Nat.le_of_ble_eq_true rfl) (Nat.le_of_ble_eq_true rfl) ?_
            have jn_45 : ∀ (v45 : Nat → Int32) (nm45 : Int64) (H : Heap) (locs : List Loc) (ls : Array Slot), MIv T v45 → FV [4, 5] v3 v45 → ((v45 4).toInt ≠ 0 ∨ (v 4).toInt = 0) → va_P G vwCl (WMs cy mo h v45 nm45 f3 g3) H → va_D A (WMs cy mo h v45 nm45 f3 g3) → va_S A s.heap H locs → lv_has ls 4 [(2, .int x2_3), (1, .int x1_3), (0, .ref mo)] → W p l e (headSpec (.code yX12_readSweet cX12_readSweet 4 none :: TBg) ({ frames := 4, cells := 0, slots := 0, locals := 256 })).room s m ([.ref mo] : List Value).toArray below meth c H locs 0 0 (MQ below (va_Qv (fun (u : (Nat → Int32) × Int64 × (Nat → Nat → Int32) × (Nat → Nat → Int64)) => MIv T u.1 ∧ MIf u.2.2.1 ∧ RI u.1 u.2.2.1 ∧ WL u.1 u.2.2.1 ∧ FV [4, 5, 6, 7, 8, 9] v u.1 ∧ FF [14, 21] f u.2.2.1 ∧ (((u.1 7).toInt ≤ (v 3).toInt ∧ ((u.1 4).toInt ≠ 0 ∨ (v 4).toInt = 0))) ∧ (0 ≤ mz (v 3).toInt (u.1 7).toInt (u.1 8).toInt ∧ mz (v 3).toInt (u.1 7).toInt (u.1 8).toInt ≤ mz (v 3).toInt (v 7).toInt (v 8).toInt)) (fun u t => Ex G A (WMs cy mo h u.1 u.2.1 u.2.2.1 u.2.2.2) t) A) ([.ref mo] : List Value).toArray s 0 0 A) (F0 m 88 ls []) := by
              intro v45 nm45 H locs ls hv hV_45 qf45_0 hP hD hS hl
              have hR : RI v45 f3 := RI.fv hR hV_45 (by decide)
              have hL : WL v45 f3 := WL.fv hL hV_45 (by decide) (by decide)
              have hV_0 := FV.tr hV_0 hV_45 (by decide)
              have hW_3 := FV.tr hW_3 hV_45 (by decide)
              refine lv_aload_n hx hb dX12_readSweet_88 rfl (lv_at hl 2 rfl) ?_
              refine lv_iconst (v := 0) hx hb dX12_readSweet_89 (by decide) ?_
              refine lv_bipush (v := 11) hx hb dX12_readSweet_90 (by decide) ?_
              have hFc := fr_free hD hS hA
              refine va_calli (va_runV (As := [.int 0, .int 11]) (rest := []) ⟨hx, hb, hml, hown, ht⟩ (m_numeral l G cy _ mo h T v45 nm45 f3 g3 (0) (11)  hv hf hR hL (show (0 : Int32).toInt ≤ (11 : Int32).toInt from by omega) (show (v45 7).toInt ≤ (v45 3).toInt from by rw [(show v45 7 = (v3 7) from (hV_45 7 (by decide))), (show v45 3 = (v 3) from ((hV_45 3 (by decide)).trans (hV_3 3 (by decide))))]; omega)) (cwV 2 ht (gv k_288 k_289 k_290 k_61 k_287) rfl rfl rfl (by decide +kernel) ⟨Nat.le_of_ble_eq_true rfl, Nat.le_of_ble_eq_true rfl⟩) ⟨En.blind, va_recv hK hP (ci := 12) (q0 := 0) rfl rfl, fun U hU hW => ⟨rfl, En.of hU hW hP hK hD hN⟩⟩ rfl rfl hl.1 rfl (lv_room (Nat.le_of_ble_eq_true rfl)) dX12_readSweet_92 ⟨Nat.le_of_ble_eq_true rfl, Nat.le_of_ble_eq_true rfl⟩) hS (fun q _ h => hFc q h) hFc (fun r_u_46 u_46 t9 H locs ht9 hvm hw hB hz1 hk1 hS => ?_)
              obtain ⟨v46, nm46⟩ := u_46
              obtain ⟨hP1, hD1⟩ := hB
              rw [ht9] at hP1
              obtain ⟨hv, xu_46V, wu_46, xu_46_M⟩ := hw
              dsimp only at hv xu_46V wu_46 xu_46_M
              have hP : va_P G vwCl (WMs cy mo h v46 nm46 f3 g3) H := hP1
              have hD : va_D A (WMs cy mo h v46 nm46 f3 g3) := hD1.weaken (fun _ _ _ h => hFc _ h)
              have hR : RI v46 f3 := RI.fv hR xu_46V (by decide)
              have hL : WL v46 f3 := WL.fv hL xu_46V (by decide) (by decide)
              have hV_0 := FV.tr hV_0 xu_46V (by decide)
              have hW_3 := FV.tr hW_3 xu_46V (by decide)
              clear hFc hk1 hz1 hP1 hD1
              have wu_46 : ((0 : Int32).toInt ≤ r_u_46.toInt ∧ r_u_46.toInt ≤ (11 : Int32).toInt ∧ (v46 7).toInt ≤ (v 3).toInt ∧ ((v46 4).toInt ≠ 0 ∨ ((v45 4).toInt = 0 ∧ (v3 8).toInt = 4))) := by
                have h9 : ((0 : Int32).toInt ≤ r_u_46.toInt ∧ r_u_46.toInt ≤ (11 : Int32).toInt ∧ (v46 7).toInt ≤ (v45 3).toInt ∧ ((v46 4).toInt ≠ 0 ∨ ((v45 4).toInt = 0 ∧ (v45 8).toInt = 4))) := wu_46
                rw [(show v45 3 = (v 3) from ((hV_45 3 (by decide)).trans (hV_3 3 (by decide)))), (show v45 8 = (v3 8) from (hV_45 8 (by decide)))] at h9
                exact h9
              have xu_46_M : 0 ≤ mz (v 3).toInt (v46 7).toInt (v46 8).toInt ∧ mz (v 3).toInt (v46 7).toInt (v46 8).toInt ≤ mz (v 3).toInt (v3 7).toInt (v3 8).toInt ∧ ((v46 4).toInt ≠ 0 ∨ mz (v 3).toInt (v46 7).toInt (v46 8).toInt < mz (v 3).toInt (v3 7).toInt (v3 8).toInt) := by
                have h9 : 0 ≤ mz (v45 3).toInt (v46 7).toInt (v46 8).toInt ∧ mz (v45 3).toInt (v46 7).toInt (v46 8).toInt ≤ mz (v45 3).toInt (v45 7).toInt (v45 8).toInt ∧ ((v46 4).toInt ≠ 0 ∨ mz (v45 3).toInt (v46 7).toInt (v46 8).toInt < mz (v45 3).toInt (v45 7).toInt (v45 8).toInt) := xu_46_M
                rw [(show v45 3 = (v 3) from ((hV_45 3 (by decide)).trans (hV_3 3 (by decide)))), (show v45 7 = (v3 7) from (hV_45 7 (by decide))), (show v45 8 = (v3 8) from (hV_45 8 (by decide)))] at h9
                exact h9
              refine lv_istore_n (lv' := [(3, .int r_u_46), (2, .int x2_3), (1, .int x1_3), (0, .ref mo)]) hx hb dX12_readSweet_95 rfl hl (by decide) rfl (fun ls hl => ?_)
              refine lv_iload_n hx hb dX12_readSweet_96 rfl (lv_at hl 2 rfl) ?_
              refine lv_iconst (v := 1) hx hb dX12_readSweet_97 (by decide) ?_
              refine lv_iload_n hx hb dX12_readSweet_98 rfl (lv_at hl 0 rfl) ?_
              refine lv_ishl hx hb dX12_readSweet_99 ?_
              refine lv_topi (fun v_47 ev_47 => ?_)
              refine lv_ior hx hb dX12_readSweet_100 ?_
              refine lv_topi (fun v_48 ev_48 => ?_)
              refine lv_istore_n (lv' := [(1, .int v_48), (3, .int r_u_46), (2, .int x2_3), (0, .ref mo)]) hx hb dX12_readSweet_101 rfl hl (by decide) rfl (fun ls hl => ?_)
              obtain ⟨v_49, ev_49⟩ : ∃ y : Int32, y = x2_3 + 1 := ⟨_, rfl⟩
              refine lv_iinc (v := v_49) (lv' := [(2, .int v_49), (1, .int v_48), (3, .int r_u_46), (0, .ref mo)]) hx hb dX12_readSweet_102 hl (k := 2) rfl (by rw [ev_49]; rfl) (by decide) rfl (fun ls hl => ?_)
              refine lv_goto (tgt := 14) hx hb dX12_readSweet_105 (by decide) ?_
              refine W.widen (k := 0) (n := 0) (Nat.le_of_ble_eq_true rfl) (Nat.le_of_ble_eq_true rfl) ?_
              exact ih_3 v_49 v_48 v46 nm46 f3 g3 _ _ _ hv hf hR hL hW_3 hY_3 (show (v46 7).toInt ≤ (v 3).toInt ∧ ((v46 4).toInt ≠ 0 ∨ (v 4).toInt = 0) ∧ 0 ≤ mz (v 3).toInt (v46 7).toInt (v46 8).toInt ∧ mz (v 3).toInt (v46 7).toInt (v46 8).toInt ≤ mz (v 3).toInt (v 7).toInt (v 8).toInt from by omega) (show tkm (mz (v 3).toInt (v46 7).toInt (v46 8).toInt) (v46 4).toInt < N_3 from by have h9 : tkm (mz (v 3).toInt (v46 7).toInt (v46 8).toInt) (v46 4).toInt < tkm (mz (v 3).toInt (v3 7).toInt (v3 8).toInt) (v3 4).toInt := tkm_lt (by omega) (by omega); omega) hP hD hS (lv_sub hl [0, 1, 3] rfl)
            have hW_45 : FV [4, 5] v3 v3 := FV.rf
            refine lv_iload_n hx hb dX12_readSweet_33 rfl (lv_at hl 0 rfl) ?_
            refine lv_bipush (v := 12) hx hb dX12_readSweet_34 (by decide) ?_
            refine lv_icmp_ne (tgt := 43) hx hb dX12_readSweet_36 (by decide) (fun c_50 => ?_) (fun c_50 => ?_)
            · have q_51 : ¬ x2_3.toInt = (12 : Int32).toInt := by have := (not_congr (ow_eq _ _)).mp c_50; omega
              refine lv_aload_n hx hb dX12_readSweet_43 rfl (lv_at hl 2 rfl) ?_
              have hFc := fr_new hS hA
              refine va_calli (va_runV (As := []) (rest := []) ⟨hx, hb, hml, hown, ht⟩ (m_isGood l G cy _ mo h T v3 nm3 f3 g3   hv hf hR hL) (cwV 0 ht (gv k_224 k_225 k_226 k_61 k_223) rfl rfl rfl (by decide +kernel) ⟨Nat.le_of_ble_eq_true rfl, Nat.le_of_ble_eq_true rfl⟩) ⟨En.blind, va_recv hK hP (ci := 12) (q0 := 0) rfl rfl, fun U hU hW => ⟨rfl, En.of hU hW hP hK hD hN⟩⟩ rfl rfl hl.1 rfl (lv_room (Nat.le_of_ble_eq_true rfl)) dX12_readSweet_44 ⟨Nat.le_of_ble_eq_true rfl, Nat.le_of_ble_eq_true rfl⟩) hS (fun q _ h => hFc q h) hFc (fun r_u_52 u_52 t9 H locs ht9 hvm hw hB hz1 hk1 hS => ?_)
              have hP := fr_keep hP hk1
              have wu_52 := hw
              clear hFc hk1 hz1 hB hw
              have wu_52 : (r_u_52.toInt = 0 ∨ r_u_52.toInt = 1) ∧ ((r_u_52.toInt = 1 ∧ (v3 4).toInt = 0) ∨ (r_u_52.toInt = 0 ∧ (v3 4).toInt ≠ 0)) := wu_52
              refine lv_if_eq (tgt := 88) hx hb dX12_readSweet_47 (by decide) (fun c_53 => ?_) (fun c_53 => ?_)
              · have q_54 : r_u_52.toInt = (0 : Int32).toInt := (ow_eq _ _).mp c_53
                refine W.widen (k := 0) (n := 0) (Nat.le_of_ble_eq_true rfl) (Nat.le_of_ble_eq_true rfl) ?_
                exact jn_45 v3 nm3 _ _ _ hv hW_45 (show (v3 4).toInt ≠ 0 ∨ (v 4).toInt = 0 from by omega) hP hD hS (lv_sub hl [0, 1, 2] rfl)
              · have q_55 : ¬ r_u_52.toInt = (0 : Int32).toInt := by have := (not_congr (ow_eq _ _)).mp c_53; omega
                refine lv_aload_n hx hb dX12_readSweet_50 rfl (lv_at hl 2 rfl) ?_
                refine mg_8 hx hb ht hown hK hP dX12_readSweet_51 ?_
                refine lv_iconst (v := 4) hx hb dX12_readSweet_54 (by decide) ?_
                refine lv_icmp_ne (tgt := 88) hx hb dX12_readSweet_55 (by decide) (fun c_56 => ?_) (fun c_56 => ?_)
                · have q_57 : ¬ (v3 8).toInt = (4 : Int32).toInt := by have := (not_congr (ow_eq _ _)).mp c_56; omega
                  exfalso
                  omega
                · have q_58 : (v3 8).toInt = (4 : Int32).toInt := (ow_eq _ _).mp c_56
                  refine lv_aload_n hx hb dX12_readSweet_58 rfl (lv_at hl 2 rfl) ?_
                  refine mg_9 hx hb ht hown hK hP dX12_readSweet_59 ?_
                  refine lv_bipush (v := 12) hx hb dX12_readSweet_62 (by decide) ?_
                  refine lv_icmp_ge (tgt := 88) hx hb dX12_readSweet_64 (by decide) (fun c_59 => ?_) (fun c_59 => ?_)
                  · have q_60 : (12 : Int32).toInt ≤ (v3 9).toInt := (ow_le _ _).mp c_59
                    refine W.widen (k := 0) (n := 0) (Nat.le_of_ble_eq_true rfl) (Nat.le_of_ble_eq_true rfl) ?_
                    exact jn_45 v3 nm3 _ _ _ hv hW_45 (show (v3 4).toInt ≠ 0 ∨ (v 4).toInt = 0 from by omega) hP hD hS (lv_sub hl [0, 1, 2] rfl)
                  · have q_61 : (v3 9).toInt < (12 : Int32).toInt := by have := (not_congr (ow_le _ _)).mp c_59; omega
                    refine lv_iload_n hx hb dX12_readSweet_67 rfl (lv_at hl 1 rfl) ?_
                    refine lv_aload_n hx hb dX12_readSweet_68 rfl (lv_at hl 2 rfl) ?_
                    refine mg_9 hx hb ht hown hK hP dX12_readSweet_69 ?_
                    refine lv_ishr hx hb dX12_readSweet_72 ?_
                    refine lv_topi (fun v_62 ev_62 => ?_)
                    refine lv_iconst (v := 1) hx hb dX12_readSweet_73 (by decide) ?_
                    refine lv_iand hx hb dX12_readSweet_74 ?_
                    refine lv_topi (fun v_63 ev_63 => ?_)
                    have q_64 : 0 ≤ v_63.toInt ∧ v_63.toInt ≤ 1 := by rw [ev_63]; exact ow_and1 _
                    refine lv_iconst (v := 1) hx hb dX12_readSweet_75 (by decide) ?_
                    refine lv_icmp_ne (tgt := 88) hx hb dX12_readSweet_76 (by decide) (fun c_65 => ?_) (fun c_65 => ?_)
                    · have q_66 : ¬ v_63.toInt = (1 : Int32).toInt := by have := (not_congr (ow_eq _ _)).mp c_65; omega
                      refine W.widen (k := 0) (n := 0) (Nat.le_of_ble_eq_true rfl) (Nat.le_of_ble_eq_true rfl) ?_
                      exact jn_45 v3 nm3 _ _ _ hv hW_45 (show (v3 4).toInt ≠ 0 ∨ (v 4).toInt = 0 from by omega) hP hD hS (lv_sub hl [0, 1, 2] rfl)
                    · have q_67 : v_63.toInt = (1 : Int32).toInt := (ow_eq _ _).mp c_65
                      refine lv_aload_n hx hb dX12_readSweet_79 rfl (lv_at hl 2 rfl) ?_
                      refine lv_iconst (v := 3) hx hb dX12_readSweet_80 (by decide) ?_
                      refine lv_aload_n hx hb dX12_readSweet_81 rfl (lv_at hl 2 rfl) ?_
                      refine mg_6 hx hb ht hown hK hP dX12_readSweet_82 ?_
                      have q_68 : 0 ≤ (v3 6).toInt ∧ (v3 6).toInt ≤ 1700 := hv 6
                      have hFc := fr_free hD hS hA
                      refine va_callv (va_runV (As := [.int 3, .int (v3 6)]) (rest := []) ⟨hx, hb, hml, hown, ht⟩ (m_fails l G cy _ mo h T v3 nm3 f3 g3 (3) (v3 6)  hv hf hR hL (by omega)) (cwV 2 ht (gv k_211 k_212 k_213 k_61 k_210) rfl rfl rfl (by decide +kernel) ⟨Nat.le_of_ble_eq_true rfl, Nat.le_of_ble_eq_true rfl⟩) ⟨En.blind, va_recv hK hP (ci := 12) (q0 := 0) rfl rfl, fun U hU hW => ⟨rfl, En.of hU hW hP hK hD hN⟩⟩ rfl rfl hl.1 rfl (lv_room (Nat.le_of_ble_eq_true rfl)) dX12_readSweet_85 ⟨Nat.le_of_ble_eq_true rfl, Nat.le_of_ble_eq_true rfl⟩) hS (fun q _ h => hFc q h) hFc (fun u_69 t9 H locs ht9 hvm hw hB hz1 hk1 hS => ?_)
                      obtain ⟨v69, nm69⟩ := u_69
                      obtain ⟨hP1, hD1⟩ := hB
                      rw [ht9] at hP1
                      obtain ⟨hv, xu_69V, wu_69⟩ := hw
                      dsimp only at hv xu_69V wu_69
                      have hP : va_P G vwCl (WMs cy mo h v69 nm69 f3 g3) H := hP1
                      have hD : va_D A (WMs cy mo h v69 nm69 f3 g3) := hD1.weaken (fun _ _ _ h => hFc _ h)
                      have hR : RI v69 f3 := RI.fv hR xu_69V (by decide)
                      have hL : WL v69 f3 := WL.fv hL xu_69V (by decide) (by decide)
                      have hV_0 := FV.tr hV_0 xu_69V (by decide)
                      have hW_3 := FV.tr hW_3 xu_69V (by decide)
                      have hW_45 := FV.tr hW_45 xu_69V (by decide)
                      clear hFc hk1 hz1 hP1 hD1
                      have wu_69 : (1 ≤ (v69 4).toInt) := wu_69
                      refine W.widen (k := 0) (n := 0) (Nat.le_of_ble_eq_true rfl) (Nat.le_of_ble_eq_true rfl) ?_
                      exact jn_45 v69 nm69 _ _ _ hv hW_45 (show (v69 4).toInt ≠ 0 ∨ (v 4).toInt = 0 from by omega) hP hD hS (lv_sub hl [0, 1, 2] rfl)
            · have q_70 : x2_3.toInt = (12 : Int32).toInt := (ow_eq _ _).mp c_50
              refine lv_aload_n hx hb dX12_readSweet_39 rfl (lv_at hl 2 rfl) ?_
              have hFc := fr_free hD hS hA
              refine va_callv (va_runV (As := []) (rest := []) ⟨hx, hb, hml, hown, ht⟩ (m_misplaced l G cy _ mo h T v3 nm3 f3 g3   hv hf hR hL) (cwV 0 ht (gv k_228 k_229 k_230 k_61 k_227) rfl rfl rfl (by decide +kernel) ⟨Nat.le_of_ble_eq_true rfl, Nat.le_of_ble_eq_true rfl⟩) ⟨En.blind, va_recv hK hP (ci := 12) (q0 := 0) rfl rfl, fun U hU hW => ⟨rfl, En.of hU hW hP hK hD hN⟩⟩ rfl rfl hl.1 rfl (lv_room (Nat.le_of_ble_eq_true rfl)) dX12_readSweet_40 ⟨Nat.le_of_ble_eq_true rfl, Nat.le_of_ble_eq_true rfl⟩) hS (fun q _ h => hFc q h) hFc (fun u_71 t9 H locs ht9 hvm hw hB hz1 hk1 hS => ?_)
              obtain ⟨v71, nm71⟩ := u_71
              obtain ⟨hP1, hD1⟩ := hB
              rw [ht9] at hP1
              obtain ⟨hv, xu_71V, wu_71⟩ := hw
              dsimp only at hv xu_71V wu_71
              have hP : va_P G vwCl (WMs cy mo h v71 nm71 f3 g3) H := hP1
              have hD : va_D A (WMs cy mo h v71 nm71 f3 g3) := hD1.weaken (fun _ _ _ h => hFc _ h)
              have hR : RI v71 f3 := RI.fv hR xu_71V (by decide)
              have hL : WL v71 f3 := WL.fv hL xu_71V (by decide) (by decide)
              have hV_0 := FV.tr hV_0 xu_71V (by decide)
              have hW_3 := FV.tr hW_3 xu_71V (by decide)
              have hW_45 := FV.tr hW_45 xu_71V (by decide)
              clear hFc hk1 hz1 hP1 hD1
              have wu_71 : (1 ≤ (v71 4).toInt) := wu_71
              refine lv_aload_n hx hb dX12_readSweet_43 rfl (lv_at hl 2 rfl) ?_
              have hFc := fr_new hS hA
              refine va_calli (va_runV (As := []) (rest := []) ⟨hx, hb, hml, hown, ht⟩ (m_isGood l G cy _ mo h T v71 nm71 f3 g3   hv hf hR hL) (cwV 0 ht (gv k_224 k_225 k_226 k_61 k_223) rfl rfl rfl (by decide +kernel) ⟨Nat.le_of_ble_eq_true rfl, Nat.le_of_ble_eq_true rfl⟩) ⟨En.blind, va_recv hK hP (ci := 12) (q0 := 0) rfl rfl, fun U hU hW => ⟨rfl, En.of hU hW hP hK hD hN⟩⟩ rfl rfl hl.1 rfl (lv_room (Nat.le_of_ble_eq_true rfl)) dX12_readSweet_44 ⟨Nat.le_of_ble_eq_true rfl, Nat.le_of_ble_eq_true rfl⟩) hS (fun q _ h => hFc q h) hFc (fun r_u_72 u_72 t9 H locs ht9 hvm hw hB hz1 hk1 hS => ?_)
              have hP := fr_keep hP hk1
              have wu_72 := hw
              clear hFc hk1 hz1 hB hw
              have wu_72 : (r_u_72.toInt = 0 ∨ r_u_72.toInt = 1) ∧ ((r_u_72.toInt = 1 ∧ (v71 4).toInt = 0) ∨ (r_u_72.toInt = 0 ∧ (v71 4).toInt ≠ 0)) := wu_72
              refine lv_if_eq (tgt := 88) hx hb dX12_readSweet_47 (by decide) (fun c_73 => ?_) (fun c_73 => ?_)
              · have q_74 : r_u_72.toInt = (0 : Int32).toInt := (ow_eq _ _).mp c_73
                refine W.widen (k := 0) (n := 0) (Nat.le_of_ble_eq_true rfl) (Nat.le_of_ble_eq_true rfl) ?_
                exact jn_45 v71 nm71 _ _ _ hv hW_45 (show (v71 4).toInt ≠ 0 ∨ (v 4).toInt = 0 from by omega) hP hD hS (lv_sub hl [0, 1, 2] rfl)
              · have q_75 : ¬ r_u_72.toInt = (0 : Int32).toInt := by have := (not_congr (ow_eq _ _)).mp c_73; omega
                refine lv_aload_n hx hb dX12_readSweet_50 rfl (lv_at hl 2 rfl) ?_
                refine mg_8 hx hb ht hown hK hP dX12_readSweet_51 ?_
                refine ow_top (v3 8) (xu_71V 8 (by decide)) ?_
                refine lv_iconst (v := 4) hx hb dX12_readSweet_54 (by decide) ?_
                refine lv_icmp_ne (tgt := 88) hx hb dX12_readSweet_55 (by decide) (fun c_76 => ?_) (fun c_76 => ?_)
                · have q_77 : ¬ (v3 8).toInt = (4 : Int32).toInt := by have := (not_congr (ow_eq _ _)).mp c_76; omega
                  exfalso
                  omega
                · have q_78 : (v3 8).toInt = (4 : Int32).toInt := (ow_eq _ _).mp c_76
                  refine lv_aload_n hx hb dX12_readSweet_58 rfl (lv_at hl 2 rfl) ?_
                  refine mg_9 hx hb ht hown hK hP dX12_readSweet_59 ?_
                  refine ow_top (v3 9) (xu_71V 9 (by decide)) ?_
                  refine lv_bipush (v := 12) hx hb dX12_readSweet_62 (by decide) ?_
                  refine lv_icmp_ge (tgt := 88) hx hb dX12_readSweet_64 (by decide) (fun c_79 => ?_) (fun c_79 => ?_)
                  · have q_80 : (12 : Int32).toInt ≤ (v3 9).toInt := (ow_le _ _).mp c_79
                    refine W.widen (k := 0) (n := 0) (Nat.le_of_ble_eq_true rfl) (Nat.le_of_ble_eq_true rfl) ?_
                    exact jn_45 v71 nm71 _ _ _ hv hW_45 (show (v71 4).toInt ≠ 0 ∨ (v 4).toInt = 0 from by omega) hP hD hS (lv_sub hl [0, 1, 2] rfl)
                  · have q_81 : (v3 9).toInt < (12 : Int32).toInt := by have := (not_congr (ow_le _ _)).mp c_79; omega
                    refine lv_iload_n hx hb dX12_readSweet_67 rfl (lv_at hl 1 rfl) ?_
                    refine lv_aload_n hx hb dX12_readSweet_68 rfl (lv_at hl 2 rfl) ?_
                    refine mg_9 hx hb ht hown hK hP dX12_readSweet_69 ?_
                    refine ow_top (v3 9) (xu_71V 9 (by decide)) ?_
                    refine lv_ishr hx hb dX12_readSweet_72 ?_
                    refine lv_topi (fun v_82 ev_82 => ?_)
                    refine lv_iconst (v := 1) hx hb dX12_readSweet_73 (by decide) ?_
                    refine lv_iand hx hb dX12_readSweet_74 ?_
                    refine lv_topi (fun v_83 ev_83 => ?_)
                    have q_84 : 0 ≤ v_83.toInt ∧ v_83.toInt ≤ 1 := by rw [ev_83]; exact ow_and1 _
                    refine lv_iconst (v := 1) hx hb dX12_readSweet_75 (by decide) ?_
                    refine lv_icmp_ne (tgt := 88) hx hb dX12_readSweet_76 (by decide) (fun c_85 => ?_) (fun c_85 => ?_)
                    · have q_86 : ¬ v_83.toInt = (1 : Int32).toInt := by have := (not_congr (ow_eq _ _)).mp c_85; omega
                      refine W.widen (k := 0) (n := 0) (Nat.le_of_ble_eq_true rfl) (Nat.le_of_ble_eq_true rfl) ?_
                      exact jn_45 v71 nm71 _ _ _ hv hW_45 (show (v71 4).toInt ≠ 0 ∨ (v 4).toInt = 0 from by omega) hP hD hS (lv_sub hl [0, 1, 2] rfl)
                    · have q_87 : v_83.toInt = (1 : Int32).toInt := (ow_eq _ _).mp c_85
                      refine lv_aload_n hx hb dX12_readSweet_79 rfl (lv_at hl 2 rfl) ?_
                      refine lv_iconst (v := 3) hx hb dX12_readSweet_80 (by decide) ?_
                      refine lv_aload_n hx hb dX12_readSweet_81 rfl (lv_at hl 2 rfl) ?_
                      refine mg_6 hx hb ht hown hK hP dX12_readSweet_82 ?_
                      refine ow_top (v3 6) (xu_71V 6 (by decide)) ?_
                      have q_88 : 0 ≤ (v3 6).toInt ∧ (v3 6).toInt ≤ 1700 := by have h9 : v71 6 = (v3 6) := (xu_71V 6 (by decide)); rw [← h9]; exact hv 6
                      have hFc := fr_free hD hS hA
                      refine va_callv (va_runV (As := [.int 3, .int (v3 6)]) (rest := []) ⟨hx, hb, hml, hown, ht⟩ (m_fails l G cy _ mo h T v71 nm71 f3 g3 (3) (v3 6)  hv hf hR hL (by omega)) (cwV 2 ht (gv k_211 k_212 k_213 k_61 k_210) rfl rfl rfl (by decide +kernel) ⟨Nat.le_of_ble_eq_true rfl, Nat.le_of_ble_eq_true rfl⟩) ⟨En.blind, va_recv hK hP (ci := 12) (q0 := 0) rfl rfl, fun U hU hW => ⟨rfl, En.of hU hW hP hK hD hN⟩⟩ rfl rfl hl.1 rfl (lv_room (Nat.le_of_ble_eq_true rfl)) dX12_readSweet_85 ⟨Nat.le_of_ble_eq_true rfl, Nat.le_of_ble_eq_true rfl⟩) hS (fun q _ h => hFc q h) hFc (fun u_89 t9 H locs ht9 hvm hw hB hz1 hk1 hS => ?_)
                      obtain ⟨v89, nm89⟩ := u_89
                      obtain ⟨hP1, hD1⟩ := hB
                      rw [ht9] at hP1
                      obtain ⟨hv, xu_89V, wu_89⟩ := hw
                      dsimp only at hv xu_89V wu_89
                      have hP : va_P G vwCl (WMs cy mo h v89 nm89 f3 g3) H := hP1
                      have hD : va_D A (WMs cy mo h v89 nm89 f3 g3) := hD1.weaken (fun _ _ _ h => hFc _ h)
                      have hR : RI v89 f3 := RI.fv hR xu_89V (by decide)
                      have hL : WL v89 f3 := WL.fv hL xu_89V (by decide) (by decide)
                      have hV_0 := FV.tr hV_0 xu_89V (by decide)
                      have hW_3 := FV.tr hW_3 xu_89V (by decide)
                      have hW_45 := FV.tr hW_45 xu_89V (by decide)
                      clear hFc hk1 hz1 hP1 hD1
                      have wu_89 : (1 ≤ (v89 4).toInt) := wu_89
                      refine W.widen (k := 0) (n := 0) (Nat.le_of_ble_eq_true rfl) (Nat.le_of_ble_eq_true rfl) ?_
                      exact jn_45 v89 nm89 _ _ _ hv hW_45 (show (v89 4).toInt ≠ 0 ∨ (v 4).toInt = 0 from by omega) hP hD hS (lv_sub hl [0, 1, 2] rfl)
  exact lp_3 _ (0) (0) v nm (va_up f 21 (upd (f 21) (Int32.toNatClampNeg (v 30)) (vp_nar .boolean 1))) g _ _ _ hv hf hR hL FV.rf FF.rf (show (v 7).toInt ≤ (v 3).toInt ∧ ((v 4).toInt ≠ 0 ∨ (v 4).toInt = 0) ∧ 0 ≤ mz (v 3).toInt (v 7).toInt (v 8).toInt ∧ mz (v 3).toInt (v 7).toInt (v 8).toInt ≤ mz (v 3).toInt (v 7).toInt (v 8).toInt from by omega) (Nat.lt_succ_self _) hP hD hS (lv_sub hl [0, 1, 2] rfl)
set_option maxHeartbeats 4000000 in
set_option maxRecDepth 100000 in
theorem m_readLock (l : Launch) (G : va_G) (cy : Nat → ClassId) (sz : Nat) (mo : Nat) (h : Nat → Nat) (T : Int) (v : Nat → Int32) (nm : Int64) (f : Nat → Nat → Int32) (g : Nat → Nat → Int64)   (hv : MIv T v) (hf : MIf f) (hR : RI v f) (hL : WL v f) (he : (v 7).toInt ≤ (v 3).toInt) (hrb : (v 30).toInt + (v 29).toInt = 1) (hl9 : (f 12 (Int32.toNatClampNeg (v 30))).toInt ≤ 7) (hPB : PB (v 30).toInt (v 31).toInt (f 13 (Int32.toNatClampNeg (v 30))).toInt (f 12) (f 19) (f 20) (f 24) (f 25) (Int32.toNatClampNeg (v 30))) : Met l yX12_readLock (.code yX12_readLock cX12_readLock 4 none :: TBg) ({ frames := 6, cells := 0, slots := 0, locals := 384 }) (va_Pc [.ref mo] (En G cy (WMs cy mo h v nm f g) sz)) (va_Qv (fun (u : (Nat → Int32) × Int64 × (Nat → Nat → Int32) × (Nat → Nat → Int64)) => MIv T u.1 ∧ MIf u.2.2.1 ∧ RI u.1 u.2.2.1 ∧ WL u.1 u.2.2.1 ∧ FV [4, 5, 6, 7, 8, 9, 31, 32, 33] v u.1 ∧ FF [12, 13, 18, 19, 20, 24, 25, 26, 27] f u.2.2.1 ∧ (((u.1 7).toInt ≤ (v 3).toInt ∧ ((u.1 4).toInt ≠ 0 ∨ (v 4).toInt = 0))) ∧ (0 ≤ mz (v 3).toInt (u.1 7).toInt (u.1 8).toInt ∧ mz (v 3).toInt (u.1 7).toInt (u.1 8).toInt ≤ mz (v 3).toInt (v 7).toInt (v 8).toInt) ∧ ((u.1 4).toInt = 0 → PB (v 30).toInt (u.1 31).toInt (u.2.2.1 13 (Int32.toNatClampNeg (v 30))).toInt (u.2.2.1 12) (u.2.2.1 19) (u.2.2.1 20) (u.2.2.1 24) (u.2.2.1 25) (Int32.toNatClampNeg (v 30)))) (fun u t => Ex G (va_A (WMs cy mo h v nm f g) sz) (WMs cy mo h u.1 u.2.1 u.2.2.1 u.2.2.2) t) (va_A (WMs cy mo h v nm f g) sz)) 0 0 (va_A (WMs cy mo h v nm f g) sz) := by
  refine Met.ofW (cc := cX12_readLock) (maxL := 4) (ret := none) (by decide) rfl ?_
  intro p e s m args below meth c s₁ B hml hv9
  obtain ⟨rfl, hsz, hP, hK, hD0, hN⟩ := hv9
  have hx := B.exec
  have hb := B.bytes
  have hr := B.returns
  have hts := atoms_spec (ws := .code yX12_readLock cX12_readLock 4 none :: TBg) B.pre
  have ht : ∀ w ∈ TBg, w.before _ s = true := fun w h => hts w (List.mem_cons_of_mem _ h)
  have hown : s.vm.findClass RX12 = some m.cls := findClass_of_methodNamed B.named
  have hlocks := B.notSynchronized
  subst hsz
  have hD := hD0.self (sz := s.heap.size)
  generalize hAe : va_A (WMs cy mo h v nm f g) s.heap.size = A at hD ⊢
  have hA : ∀ q : Nat, s.heap.size ≤ q → A q := fun q h => by rw [← hAe]; exact Or.inr h
  have hS : va_S A s.heap s.heap [] := va_S.rf
  have hl := lv_entry ([.ref mo]) (n := 4) (Nat.le_of_ble_eq_true rfl)
  rw [lg_entry_eq]
  generalize (lg_sl ([.ref mo]) ++ List.replicate (4 - (lg_sl ([.ref mo])).length) Slot.unset).toArray = ls at hl ⊢
  have hl : lv_has ls 4 [(0, .ref mo)] := hl
  have z0 : (0 : Int32).toInt = 0 := by decide
  have z1 : (1 : Int32).toInt = 1 := by decide
  have z2 : (8 : Int32).toInt = 8 := by decide
  have z3 : (20 : Int32).toInt = 20 := by decide
  have hf_0 := hf
  have hV_0 : FV [4, 5, 6, 7, 8, 9, 31, 32, 33] v v := FV.rf
  have hF_0 : FF [12, 13, 18, 19, 20, 24, 25, 26, 27] f f := FF.rf
  have hmz0 : 0 ≤ mz (v 3).toInt (v 7).toInt (v 8).toInt := mz_nn he
  have rg4 : 0 ≤ (v 4).toInt ∧ (v 4).toInt ≤ 5 := hv 4
  have rg29 : 0 ≤ (v 29).toInt ∧ (v 29).toInt ≤ 1 := hv 29
  have rg30 : 0 ≤ (v 30).toInt ∧ (v 30).toInt ≤ 1 := hv 30
  have rg31 : 0 ≤ (v 31).toInt ∧ (v 31).toInt ≤ 1200 := hv 31
  have rgU : 0 ≤ (f 13 (Int32.toNatClampNeg (v 30))).toInt ∧ (f 13 (Int32.toNatClampNeg (v 30))).toInt ≤ 60 := hf 13 _ (show (Int32.toNatClampNeg (v 30)) < 2 from by rw [ow_tn]; omega)
  have rgK : 0 ≤ (f 12 (Int32.toNatClampNeg (v 30))).toInt ∧ (f 12 (Int32.toNatClampNeg (v 30))).toInt ≤ 8 := hf 12 _ (show (Int32.toNatClampNeg (v 30)) < 2 from by rw [ow_tn]; omega)
  have hPB3 := hPB.2.2
  refine lv_bipush (v := 8) hx hb dX12_readLock_0 (by decide) ?_
  refine lv_aload_n hx hb dX12_readLock_2 rfl (lv_at hl 0 rfl) ?_
  refine mg_30 hx hb ht hown hK hP dX12_readLock_3 ?_
  have q_1 : 0 ≤ (v 30).toInt ∧ (v 30).toInt ≤ 1 := hv 30
  refine lv_imul hx hb dX12_readLock_6 ?_
  refine lv_topi (fun v_2 ev_2 => ?_)
  have q_3 : v_2.toInt = 8 * (v 30).toInt := ow_mul ev_2 (by decide) (by omega) (by omega)
  refine lv_aload_n hx hb dX12_readLock_7 rfl (lv_at hl 0 rfl) ?_
  refine mg_12 hx hb ht hown hK hP dX12_readLock_8 ?_
  refine lv_aload_n hx hb dX12_readLock_11 rfl (lv_at hl 0 rfl) ?_
  refine mg_30 hx hb ht hown hK hP dX12_readLock_12 ?_
  have q_4 : vp_in (v 30) 2 := vp_in_iff.mpr ⟨by omega, by omega⟩
  refine ml_12 hx hb hK hP q_4 dX12_readLock_15 ?_
  refine lv_topi (fun v_5 ev_5 => ?_)
  have q_6 : 0 ≤ v_5.toInt ∧ v_5.toInt ≤ 8 := by rw [ev_5]; exact MIf.rd 12 hf q_4
  have q_7 : v_5.toInt = ((f 12) (Int32.toNatClampNeg (v 30))).toInt := (congrArg Int32.toInt ev_5).trans (congrArg (fun z : Nat → Int32 => (z (Int32.toNatClampNeg (v 30))).toInt) (show f 12 = (f 12) from rfl))
  refine lv_iadd hx hb dX12_readLock_16 ?_
  refine lv_topi (fun v_8 ev_8 => ?_)
  have q_9 : v_8.toInt = v_2.toInt + v_5.toInt := ow_add ev_8 (by omega) (by omega)
  refine lv_istore_n (lv' := [(1, .int v_8), (0, .ref mo)]) hx hb dX12_readLock_17 rfl hl (by decide) rfl (fun ls hl => ?_)
  refine lv_aload_n hx hb dX12_readLock_18 rfl (lv_at hl 1 rfl) ?_
  refine lv_aload_n hx hb dX12_readLock_19 rfl (lv_at hl 1 rfl) ?_
  refine lv_aload_n hx hb dX12_readLock_20 rfl (lv_at hl 1 rfl) ?_
  refine mg_23 hx hb ht hown hK hP dX12_readLock_21 ?_
  refine lv_bipush (v := 8) hx hb dX12_readLock_24 (by decide) ?_
  refine lv_aload_n hx hb dX12_readLock_26 rfl (lv_at hl 1 rfl) ?_
  refine mg_30 hx hb ht hown hK hP dX12_readLock_27 ?_
  refine lv_imul hx hb dX12_readLock_30 ?_
  refine lv_topi (fun v_10 ev_10 => ?_)
  have q_11 : v_10.toInt = 8 * (v 30).toInt := ow_mul ev_10 (by decide) (by omega) (by omega)
  refine lv_aload_n hx hb dX12_readLock_31 rfl (lv_at hl 1 rfl) ?_
  refine mg_12 hx hb ht hown hK hP dX12_readLock_32 ?_
  refine lv_aload_n hx hb dX12_readLock_35 rfl (lv_at hl 1 rfl) ?_
  refine mg_30 hx hb ht hown hK hP dX12_readLock_36 ?_
  refine ml_12 hx hb hK hP q_4 dX12_readLock_39 ?_
  refine ow_top v_5 ev_5.symm ?_
  have hFc := fr_new hS hA
  refine va_calli (va_runV (As := [.ref (h 23), .int v_10, .int v_5]) (rest := [.ref mo]) ⟨hx, hb, hml, hown, ht⟩ (m_hereL l G cy _ mo h T v nm f g v_10 v_5  hv hf hR hL (by omega) (by omega) (show v_10.toInt + v_5.toInt ≤ 16 from by omega)) (cwV 3 ht (gv k_236 k_237 k_238 k_61 k_235) rfl rfl rfl (by decide +kernel) ⟨Nat.le_of_ble_eq_true rfl, Nat.le_of_ble_eq_true rfl⟩) ⟨En.blind, va_recv hK hP (ci := 12) (q0 := 0) rfl rfl, fun U hU hW => ⟨rfl, En.of hU hW hP hK hD hN⟩⟩ rfl rfl hl.1 rfl (lv_room (Nat.le_of_ble_eq_true rfl)) dX12_readLock_40 ⟨Nat.le_of_ble_eq_true rfl, Nat.le_of_ble_eq_true rfl⟩) hS (fun q _ h => hFc q h) hFc (fun r_u_12 u_12 t9 H locs ht9 hvm hw hB hz1 hk1 hS => ?_)
  have hP := fr_keep hP hk1
  have wu_12 := hw
  clear hFc hk1 hz1 hB hw
  refine W.widen (k := 0) (n := 0) (Nat.le_of_ble_eq_true rfl) (Nat.le_of_ble_eq_true rfl) ?_
  have jn_13 : ∀ (y0_13 : Int32) (H : Heap) (locs : List Loc) (ls : Array Slot), (0 ≤ y0_13.toInt ∧ y0_13.toInt ≤ 1) → va_P G vwCl (WMs cy mo h v nm f g) H → va_D A (WMs cy mo h v nm f g) → va_S A s.heap H locs → lv_has ls 4 [(1, .int v_8), (0, .ref mo)] → W p l e (headSpec (.code yX12_readLock cX12_readLock 4 none :: TBg) ({ frames := 6, cells := 0, slots := 0, locals := 384 })).room s m ([.ref mo] : List Value).toArray below meth c H locs 0 0 (MQ below (va_Qv (fun (u : (Nat → Int32) × Int64 × (Nat → Nat → Int32) × (Nat → Nat → Int64)) => MIv T u.1 ∧ MIf u.2.2.1 ∧ RI u.1 u.2.2.1 ∧ WL u.1 u.2.2.1 ∧ FV [4, 5, 6, 7, 8, 9, 31, 32, 33] v u.1 ∧ FF [12, 13, 18, 19, 20, 24, 25, 26, 27] f u.2.2.1 ∧ (((u.1 7).toInt ≤ (v 3).toInt ∧ ((u.1 4).toInt ≠ 0 ∨ (v 4).toInt = 0))) ∧ (0 ≤ mz (v 3).toInt (u.1 7).toInt (u.1 8).toInt ∧ mz (v 3).toInt (u.1 7).toInt (u.1 8).toInt ≤ mz (v 3).toInt (v 7).toInt (v 8).toInt) ∧ ((u.1 4).toInt = 0 → PB (v 30).toInt (u.1 31).toInt (u.2.2.1 13 (Int32.toNatClampNeg (v 30))).toInt (u.2.2.1 12) (u.2.2.1 19) (u.2.2.1 20) (u.2.2.1 24) (u.2.2.1 25) (Int32.toNatClampNeg (v 30)))) (fun u t => Ex G A (WMs cy mo h u.1 u.2.1 u.2.2.1 u.2.2.2) t) A) ([.ref mo] : List Value).toArray s 0 0 A) (F0 m 51 ls [.int y0_13, .ref mo]) := by
    intro y0_13 H locs ls qf13_0 hP hD hS hl
    have hFc := fr_free hD hS hA
    refine va_calll (va_runV (As := [.int y0_13]) (rest := []) ⟨hx, hb, hml, hown, ht⟩ (m_fresh l G cy _ mo h T v nm f g y0_13  hv hf hR hL (by omega) (show (v 7).toInt ≤ (v 3).toInt from by omega)) (cwV 1 ht (gv k_284 k_285 k_286 k_61 k_283) rfl rfl rfl (by decide +kernel) ⟨Nat.le_of_ble_eq_true rfl, Nat.le_of_ble_eq_true rfl⟩) ⟨En.blind, va_recv hK hP (ci := 12) (q0 := 0) rfl rfl, fun U hU hW => ⟨rfl, En.of hU hW hP hK hD hN⟩⟩ rfl rfl hl.1 rfl (lv_room (Nat.le_of_ble_eq_true rfl)) dX12_readLock_51 ⟨Nat.le_of_ble_eq_true rfl, Nat.le_of_ble_eq_true rfl⟩) hS (fun q _ h => hFc q h) hFc (fun r_u_14 u_14 t9 H locs ht9 hvm hw hB hz1 hk1 hS => ?_)
    obtain ⟨v14, nm14⟩ := u_14
    obtain ⟨hP1, hD1⟩ := hB
    rw [ht9] at hP1
    obtain ⟨hv, xu_14V, wu_14, xu_14_M⟩ := hw
    dsimp only at hv xu_14V wu_14 xu_14_M
    have hP : va_P G vwCl (WMs cy mo h v14 nm14 f g) H := hP1
    have hD : va_D A (WMs cy mo h v14 nm14 f g) := hD1.weaken (fun _ _ _ h => hFc _ h)
    have hR : RI v14 f := RI.fv hR xu_14V (by decide)
    have hL : WL v14 f := WL.fv hL xu_14V (by decide) (by decide)
    have hV_0 := FV.tr hV_0 xu_14V (by decide)
    clear hFc hk1 hz1 hP1 hD1
    have wu_14 : ((v14 7).toInt ≤ (v 3).toInt ∧ ((v14 4).toInt ≠ 0 ∨ (v 4).toInt = 0)) := wu_14
    have xu_14_M : 0 ≤ mz (v 3).toInt (v14 7).toInt (v14 8).toInt ∧ mz (v 3).toInt (v14 7).toInt (v14 8).toInt ≤ mz (v 3).toInt (v 7).toInt (v 8).toInt := by
      have h9 : 0 ≤ mz (v 3).toInt (v14 7).toInt (v14 8).toInt ∧ mz (v 3).toInt (v14 7).toInt (v14 8).toInt ≤ mz (v 3).toInt (v 7).toInt (v 8).toInt := xu_14_M
      exact h9
    refine lv_lstore_n (lv' := [(2, .long r_u_14), (1, .int v_8), (0, .ref mo)]) hx hb dX12_readLock_54 rfl hl (by decide) rfl (fun ls hl => ?_)
    refine lv_aload_n hx hb dX12_readLock_55 rfl (lv_at hl 2 rfl) ?_
    refine lv_aload_n hx hb dX12_readLock_56 rfl (lv_at hl 2 rfl) ?_
    refine lv_ldc2 (v := 1852137842) hx hb hown (ht _ k_201) dX12_readLock_57 ?_
    have hFc := fr_new hS hA
    refine va_calli (va_runV (As := [.long (1852137842 : Int64)]) (rest := [.ref mo]) ⟨hx, hb, hml, hown, ht⟩ (m_isWord l G cy _ mo h T v14 nm14 f g (1852137842 : Int64)  hv hf hR hL) (cwV 1 ht (gv k_240 k_241 k_242 k_61 k_239) rfl rfl rfl (by decide +kernel) ⟨Nat.le_of_ble_eq_true rfl, Nat.le_of_ble_eq_true rfl⟩) ⟨En.blind, va_recv hK hP (ci := 12) (q0 := 0) rfl rfl, fun U hU hW => ⟨rfl, En.of hU hW hP hK hD hN⟩⟩ rfl rfl hl.1 rfl (lv_room (Nat.le_of_ble_eq_true rfl)) dX12_readLock_60 ⟨Nat.le_of_ble_eq_true rfl, Nat.le_of_ble_eq_true rfl⟩) hS (fun q _ h => hFc q h) hFc (fun r_u_15 u_15 t9 H locs ht9 hvm hw hB hz1 hk1 hS => ?_)
    have hP := fr_keep hP hk1
    obtain ⟨wu_15, xu_15_W⟩ := hw
    clear hFc hk1 hz1 hB
    have wu_15 : (r_u_15.toInt = 0 ∨ r_u_15.toInt = 1) ∧ (r_u_15.toInt = 0 ∨ (v14 8).toInt = 3) := wu_15
    have xu_15_W : (r_u_15.toInt = 1 → nm14 = (1852137842 : Int64)) ∧ (r_u_15.toInt = 0 → (v14 8).toInt = 3 → ¬ nm14 = (1852137842 : Int64)) := by
      have h9 : (r_u_15.toInt = 1 → nm14 = (1852137842 : Int64)) ∧ (r_u_15.toInt = 0 → (v14 8).toInt = 3 → ¬ nm14 = (1852137842 : Int64)) := xu_15_W
      exact h9
    have hFc := fr_free hD hS hA
    refine va_callv (va_runV (As := [.int r_u_15]) (rest := []) ⟨hx, hb, hml, hown, ht⟩ (m_must l G cy _ mo h T v14 nm14 f g r_u_15  hv hf hR hL (by omega) (show (v14 7).toInt ≤ (v14 3).toInt from by rw [(show v14 3 = (v 3) from (xu_14V 3 (by decide)))]; omega)) (cwV 1 ht (gv k_268 k_269 k_270 k_61 k_267) rfl rfl rfl (by decide +kernel) ⟨Nat.le_of_ble_eq_true rfl, Nat.le_of_ble_eq_true rfl⟩) ⟨En.blind, va_recv hK hP (ci := 12) (q0 := 0) rfl rfl, fun U hU hW => ⟨rfl, En.of hU hW hP hK hD hN⟩⟩ rfl rfl hl.1 rfl (lv_room (Nat.le_of_ble_eq_true rfl)) dX12_readLock_63 ⟨Nat.le_of_ble_eq_true rfl, Nat.le_of_ble_eq_true rfl⟩) hS (fun q _ h => hFc q h) hFc (fun u_16 t9 H locs ht9 hvm hw hB hz1 hk1 hS => ?_)
    obtain ⟨v16, nm16⟩ := u_16
    obtain ⟨hP1, hD1⟩ := hB
    rw [ht9] at hP1
    obtain ⟨hv, xu_16V, wu_16, xu_16_M⟩ := hw
    dsimp only at hv xu_16V wu_16 xu_16_M
    have hP : va_P G vwCl (WMs cy mo h v16 nm16 f g) H := hP1
    have hD : va_D A (WMs cy mo h v16 nm16 f g) := hD1.weaken (fun _ _ _ h => hFc _ h)
    have hR : RI v16 f := RI.fv hR xu_16V (by decide)
    have hL : WL v16 f := WL.fv hL xu_16V (by decide) (by decide)
    have hV_0 := FV.tr hV_0 xu_16V (by decide)
    clear hFc hk1 hz1 hP1 hD1
    have wu_16 : ((v16 7).toInt ≤ (v 3).toInt ∧ ((v16 4).toInt ≠ 0 ∨ (v14 4).toInt = 0)) := by
      have h9 : ((v16 7).toInt ≤ (v14 3).toInt ∧ ((v16 4).toInt ≠ 0 ∨ (v14 4).toInt = 0)) := wu_16
      rw [(show v14 3 = (v 3) from (xu_14V 3 (by decide)))] at h9
      exact h9
    have xu_16_M : 0 ≤ mz (v 3).toInt (v16 7).toInt (v16 8).toInt ∧ mz (v 3).toInt (v16 7).toInt (v16 8).toInt ≤ mz (v 3).toInt (v14 7).toInt (v14 8).toInt := by
      have h9 : 0 ≤ mz (v14 3).toInt (v16 7).toInt (v16 8).toInt ∧ mz (v14 3).toInt (v16 7).toInt (v16 8).toInt ≤ mz (v14 3).toInt (v14 7).toInt (v14 8).toInt := xu_16_M
      rw [(show v14 3 = (v 3) from (xu_14V 3 (by decide)))] at h9
      exact h9
    refine lv_aload_n hx hb dX12_readLock_66 rfl (lv_at hl 2 rfl) ?_
    refine mg_18 hx hb ht hown hK hP dX12_readLock_67 ?_
    refine lv_iload_n hx hb dX12_readLock_70 rfl (lv_at hl 1 rfl) ?_
    refine lv_aload_n hx hb dX12_readLock_71 rfl (lv_at hl 2 rfl) ?_
    refine lv_iconst (v := 0) hx hb dX12_readLock_72 (by decide) ?_
    refine lv_bipush (v := 20) hx hb dX12_readLock_73 (by decide) ?_
    have hFc := fr_free hD hS hA
    refine va_calli (va_runV (As := [.int 0, .int 20]) (rest := [.int v_8, .ref (h 18)]) ⟨hx, hb, hml, hown, ht⟩ (m_numeral l G cy _ mo h T v16 nm16 f g (0) (20)  hv hf hR hL (show (0 : Int32).toInt ≤ (20 : Int32).toInt from by omega) (show (v16 7).toInt ≤ (v16 3).toInt from by rw [(show v16 3 = (v 3) from ((xu_16V 3 (by decide)).trans (xu_14V 3 (by decide))))]; omega)) (cwV 2 ht (gv k_288 k_289 k_290 k_61 k_287) rfl rfl rfl (by decide +kernel) ⟨Nat.le_of_ble_eq_true rfl, Nat.le_of_ble_eq_true rfl⟩) ⟨En.blind, va_recv hK hP (ci := 12) (q0 := 0) rfl rfl, fun U hU hW => ⟨rfl, En.of hU hW hP hK hD hN⟩⟩ rfl rfl hl.1 rfl (lv_room (Nat.le_of_ble_eq_true rfl)) dX12_readLock_75 ⟨Nat.le_of_ble_eq_true rfl, Nat.le_of_ble_eq_true rfl⟩) hS (fun q _ h => hFc q h) hFc (fun r_u_17 u_17 t9 H locs ht9 hvm hw hB hz1 hk1 hS => ?_)
    obtain ⟨v17, nm17⟩ := u_17
    obtain ⟨hP1, hD1⟩ := hB
    rw [ht9] at hP1
    obtain ⟨hv, xu_17V, wu_17, xu_17_M⟩ := hw
    dsimp only at hv xu_17V wu_17 xu_17_M
    have hP : va_P G vwCl (WMs cy mo h v17 nm17 f g) H := hP1
    have hD : va_D A (WMs cy mo h v17 nm17 f g) := hD1.weaken (fun _ _ _ h => hFc _ h)
    have hR : RI v17 f := RI.fv hR xu_17V (by decide)
    have hL : WL v17 f := WL.fv hL xu_17V (by decide) (by decide)
    have hV_0 := FV.tr hV_0 xu_17V (by decide)
    clear hFc hk1 hz1 hP1 hD1
    have wu_17 : ((0 : Int32).toInt ≤ r_u_17.toInt ∧ r_u_17.toInt ≤ (20 : Int32).toInt ∧ (v17 7).toInt ≤ (v 3).toInt ∧ ((v17 4).toInt ≠ 0 ∨ ((v16 4).toInt = 0 ∧ (v16 8).toInt = 4))) := by
      have h9 : ((0 : Int32).toInt ≤ r_u_17.toInt ∧ r_u_17.toInt ≤ (20 : Int32).toInt ∧ (v17 7).toInt ≤ (v16 3).toInt ∧ ((v17 4).toInt ≠ 0 ∨ ((v16 4).toInt = 0 ∧ (v16 8).toInt = 4))) := wu_17
      rw [(show v16 3 = (v 3) from ((xu_16V 3 (by decide)).trans (xu_14V 3 (by decide))))] at h9
      exact h9
    have xu_17_M : 0 ≤ mz (v 3).toInt (v17 7).toInt (v17 8).toInt ∧ mz (v 3).toInt (v17 7).toInt (v17 8).toInt ≤ mz (v 3).toInt (v16 7).toInt (v16 8).toInt ∧ ((v17 4).toInt ≠ 0 ∨ mz (v 3).toInt (v17 7).toInt (v17 8).toInt < mz (v 3).toInt (v16 7).toInt (v16 8).toInt) := by
      have h9 : 0 ≤ mz (v16 3).toInt (v17 7).toInt (v17 8).toInt ∧ mz (v16 3).toInt (v17 7).toInt (v17 8).toInt ≤ mz (v16 3).toInt (v16 7).toInt (v16 8).toInt ∧ ((v17 4).toInt ≠ 0 ∨ mz (v16 3).toInt (v17 7).toInt (v17 8).toInt < mz (v16 3).toInt (v16 7).toInt (v16 8).toInt) := xu_17_M
      rw [(show v16 3 = (v 3) from ((xu_16V 3 (by decide)).trans (xu_14V 3 (by decide))))] at h9
      exact h9
    have q_18 : vp_in v_8 16 := vp_in_iff.mpr ⟨by omega, by omega⟩
    refine ms_18 hx hb hK hP hD hS q_18 dX12_readLock_78 (fun H locs hP hD hS => ?_)
    have hf := MIf.up 18 (i := (Int32.toNatClampNeg v_8)) hf (ow_any r_u_17)
    have hF_0 := FF.up hF_0 18 (upd (f 18) (Int32.toNatClampNeg v_8) r_u_17) (by decide)
    have hL : WL v17 (va_up f 18 (upd (f 18) (Int32.toNatClampNeg v_8) r_u_17)) := WL.upf 18 hL (by decide)
    have hR : RI v17 (va_up f 18 (upd (f 18) (Int32.toNatClampNeg v_8) r_u_17)) := RI.up 18 hR (by decide)
    refine lv_aload_n hx hb dX12_readLock_79 rfl (lv_at hl 2 rfl) ?_
    refine lv_aload_n hx hb dX12_readLock_80 rfl (lv_at hl 2 rfl) ?_
    refine lv_ldc2 (v := 478627065459) hx hb hown (ht _ k_202) dX12_readLock_81 ?_
    have hFc := fr_new hS hA
    refine va_calli (va_runV (As := [.long (478627065459 : Int64)]) (rest := [.ref mo]) ⟨hx, hb, hml, hown, ht⟩ (m_isWord l G cy _ mo h T v17 nm17 (va_up f 18 (upd (f 18) (Int32.toNatClampNeg v_8) r_u_17)) g (478627065459 : Int64)  hv hf hR hL) (cwV 1 ht (gv k_240 k_241 k_242 k_61 k_239) rfl rfl rfl (by decide +kernel) ⟨Nat.le_of_ble_eq_true rfl, Nat.le_of_ble_eq_true rfl⟩) ⟨En.blind, va_recv hK hP (ci := 12) (q0 := 0) rfl rfl, fun U hU hW => ⟨rfl, En.of hU hW hP hK hD hN⟩⟩ rfl rfl hl.1 rfl (lv_room (Nat.le_of_ble_eq_true rfl)) dX12_readLock_84 ⟨Nat.le_of_ble_eq_true rfl, Nat.le_of_ble_eq_true rfl⟩) hS (fun q _ h => hFc q h) hFc (fun r_u_19 u_19 t9 H locs ht9 hvm hw hB hz1 hk1 hS => ?_)
    have hP := fr_keep hP hk1
    obtain ⟨wu_19, xu_19_W⟩ := hw
    clear hFc hk1 hz1 hB
    have wu_19 : (r_u_19.toInt = 0 ∨ r_u_19.toInt = 1) ∧ (r_u_19.toInt = 0 ∨ (v17 8).toInt = 3) := wu_19
    have xu_19_W : (r_u_19.toInt = 1 → nm17 = (478627065459 : Int64)) ∧ (r_u_19.toInt = 0 → (v17 8).toInt = 3 → ¬ nm17 = (478627065459 : Int64)) := by
      have h9 : (r_u_19.toInt = 1 → nm17 = (478627065459 : Int64)) ∧ (r_u_19.toInt = 0 → (v17 8).toInt = 3 → ¬ nm17 = (478627065459 : Int64)) := xu_19_W
      exact h9
    have hFc := fr_free hD hS hA
    refine va_callv (va_runV (As := [.int r_u_19]) (rest := []) ⟨hx, hb, hml, hown, ht⟩ (m_must l G cy _ mo h T v17 nm17 (va_up f 18 (upd (f 18) (Int32.toNatClampNeg v_8) r_u_17)) g r_u_19  hv hf hR hL (by omega) (show (v17 7).toInt ≤ (v17 3).toInt from by rw [(show v17 3 = (v 3) from ((xu_17V 3 (by decide)).trans ((xu_16V 3 (by decide)).trans (xu_14V 3 (by decide)))))]; omega)) (cwV 1 ht (gv k_268 k_269 k_270 k_61 k_267) rfl rfl rfl (by decide +kernel) ⟨Nat.le_of_ble_eq_true rfl, Nat.le_of_ble_eq_true rfl⟩) ⟨En.blind, va_recv hK hP (ci := 12) (q0 := 0) rfl rfl, fun U hU hW => ⟨rfl, En.of hU hW hP hK hD hN⟩⟩ rfl rfl hl.1 rfl (lv_room (Nat.le_of_ble_eq_true rfl)) dX12_readLock_87 ⟨Nat.le_of_ble_eq_true rfl, Nat.le_of_ble_eq_true rfl⟩) hS (fun q _ h => hFc q h) hFc (fun u_20 t9 H locs ht9 hvm hw hB hz1 hk1 hS => ?_)
    obtain ⟨v20, nm20⟩ := u_20
    obtain ⟨hP1, hD1⟩ := hB
    rw [ht9] at hP1
    obtain ⟨hv, xu_20V, wu_20, xu_20_M⟩ := hw
    dsimp only at hv xu_20V wu_20 xu_20_M
    have hP : va_P G vwCl (WMs cy mo h v20 nm20 (va_up f 18 (upd (f 18) (Int32.toNatClampNeg v_8) r_u_17)) g) H := hP1
    have hD : va_D A (WMs cy mo h v20 nm20 (va_up f 18 (upd (f 18) (Int32.toNatClampNeg v_8) r_u_17)) g) := hD1.weaken (fun _ _ _ h => hFc _ h)
    have hR : RI v20 (va_up f 18 (upd (f 18) (Int32.toNatClampNeg v_8) r_u_17)) := RI.fv hR xu_20V (by decide)
    have hL : WL v20 (va_up f 18 (upd (f 18) (Int32.toNatClampNeg v_8) r_u_17)) := WL.fv hL xu_20V (by decide) (by decide)
    have hV_0 := FV.tr hV_0 xu_20V (by decide)
    clear hFc hk1 hz1 hP1 hD1
    have wu_20 : ((v20 7).toInt ≤ (v 3).toInt ∧ ((v20 4).toInt ≠ 0 ∨ (v17 4).toInt = 0)) := by
      have h9 : ((v20 7).toInt ≤ (v17 3).toInt ∧ ((v20 4).toInt ≠ 0 ∨ (v17 4).toInt = 0)) := wu_20
      rw [(show v17 3 = (v 3) from ((xu_17V 3 (by decide)).trans ((xu_16V 3 (by decide)).trans (xu_14V 3 (by decide)))))] at h9
      exact h9
    have xu_20_M : 0 ≤ mz (v 3).toInt (v20 7).toInt (v20 8).toInt ∧ mz (v 3).toInt (v20 7).toInt (v20 8).toInt ≤ mz (v 3).toInt (v17 7).toInt (v17 8).toInt := by
      have h9 : 0 ≤ mz (v17 3).toInt (v20 7).toInt (v20 8).toInt ∧ mz (v17 3).toInt (v20 7).toInt (v20 8).toInt ≤ mz (v17 3).toInt (v17 7).toInt (v17 8).toInt := xu_20_M
      rw [(show v17 3 = (v 3) from ((xu_17V 3 (by decide)).trans ((xu_16V 3 (by decide)).trans (xu_14V 3 (by decide)))))] at h9
      exact h9
    refine lv_aload_n hx hb dX12_readLock_90 rfl (lv_at hl 2 rfl) ?_
    refine mg_19 hx hb ht hown hK hP dX12_readLock_91 ?_
    refine lv_iload_n hx hb dX12_readLock_94 rfl (lv_at hl 1 rfl) ?_
    refine lv_aload_n hx hb dX12_readLock_95 rfl (lv_at hl 2 rfl) ?_
    refine mg_31 hx hb ht hown hK hP dX12_readLock_96 ?_
    refine ow_top (v 31) ((xu_20V 31 (by decide)).trans ((xu_17V 31 (by decide)).trans ((xu_16V 31 (by decide)).trans (xu_14V 31 (by decide))))) ?_
    have q_21 : 0 ≤ (v 31).toInt ∧ (v 31).toInt ≤ 1200 := by have h9 : v20 31 = (v 31) := ((xu_20V 31 (by decide)).trans ((xu_17V 31 (by decide)).trans ((xu_16V 31 (by decide)).trans (xu_14V 31 (by decide))))); rw [← h9]; exact hv 31
    have q_22 : vp_in v_8 16 := vp_in_iff.mpr ⟨by omega, by omega⟩
    refine ms_19 hx hb hK hP hD hS q_22 dX12_readLock_99 (fun H locs hP hD hS => ?_)
    have hf := MIf.up 19 (i := (Int32.toNatClampNeg v_8)) hf (show 0 ≤ (v 31).toInt ∧ (v 31).toInt ≤ 1200 from by omega)
    have hF_0 := FF.up hF_0 19 (upd ((va_up f 18 (upd (f 18) (Int32.toNatClampNeg v_8) r_u_17)) 19) (Int32.toNatClampNeg v_8) (v 31)) (by decide)
    have hL : WL v20 (va_up (va_up f 18 (upd (f 18) (Int32.toNatClampNeg v_8) r_u_17)) 19 (upd ((va_up f 18 (upd (f 18) (Int32.toNatClampNeg v_8) r_u_17)) 19) (Int32.toNatClampNeg v_8) (v 31))) := WL.upf 19 hL (by decide)
    have hb9 : ((Int32.toNatClampNeg v_8 : Nat) : Int) < 8 * ((Int32.toNatClampNeg (v20 29) : Nat) : Int) ∨ 8 * ((Int32.toNatClampNeg (v20 29) : Nat) : Int) + 8 ≤ ((Int32.toNatClampNeg v_8 : Nat) : Int) := by rw [show v20 29 = (v 29) from ((xu_20V 29 (by decide)).trans ((xu_17V 29 (by decide)).trans ((xu_16V 29 (by decide)).trans (xu_14V 29 (by decide)))))]; rw [ow_tn, ow_tn]; omega
    have hb8 : Int32.toNatClampNeg (v20 29) < 2 := by rw [show v20 29 = (v 29) from ((xu_20V 29 (by decide)).trans ((xu_17V 29 (by decide)).trans ((xu_16V 29 (by decide)).trans (xu_14V 29 (by decide)))))]; rw [ow_tn]; omega
    have hR : RI v20 (va_up (va_up f 18 (upd (f 18) (Int32.toNatClampNeg v_8) r_u_17)) 19 (upd ((va_up f 18 (upd (f 18) (Int32.toNatClampNeg v_8) r_u_17)) 19) (Int32.toNatClampNeg v_8) (v 31))) := RIb.w19 hR (hf 12 _ hb8).2 hb9
    refine lv_aload_n hx hb dX12_readLock_100 rfl (lv_at hl 2 rfl) ?_
    have hFc := fr_free hD hS hA
    refine va_callv (va_runV (As := []) (rest := []) ⟨hx, hb, hml, hown, ht⟩ (m_e l G cy _ mo h T v20 nm20 (va_up (va_up f 18 (upd (f 18) (Int32.toNatClampNeg v_8) r_u_17)) 19 (upd ((va_up f 18 (upd (f 18) (Int32.toNatClampNeg v_8) r_u_17)) 19) (Int32.toNatClampNeg v_8) (v 31))) g   hv hf hR hL (show (v20 7).toInt ≤ (v20 3).toInt from by rw [(show v20 3 = (v 3) from ((xu_20V 3 (by decide)).trans ((xu_17V 3 (by decide)).trans ((xu_16V 3 (by decide)).trans (xu_14V 3 (by decide))))))]; omega) (show (v20 30).toInt + (v20 29).toInt = 1 from by rw [(show v20 30 = (v 30) from ((xu_20V 30 (by decide)).trans ((xu_17V 30 (by decide)).trans ((xu_16V 30 (by decide)).trans (xu_14V 30 (by decide)))))), (show v20 29 = (v 29) from ((xu_20V 29 (by decide)).trans ((xu_17V 29 (by decide)).trans ((xu_16V 29 (by decide)).trans (xu_14V 29 (by decide))))))]; omega) (show 600 * (v20 30).toInt ≤ (v20 31).toInt ∧ ((v20 4).toInt ≠ 0 ∨ (v20 31).toInt ≤ 600 * (v20 30).toInt + 9 * ((f 13) (Int32.toNatClampNeg (v20 30))).toInt) from by rw [(show v20 30 = (v 30) from ((xu_20V 30 (by decide)).trans ((xu_17V 30 (by decide)).trans ((xu_16V 30 (by decide)).trans (xu_14V 30 (by decide)))))), (show v20 31 = (v 31) from ((xu_20V 31 (by decide)).trans ((xu_17V 31 (by decide)).trans ((xu_16V 31 (by decide)).trans (xu_14V 31 (by decide))))))]; omega)) (cwV 0 ht (gv k_292 k_293 k_294 k_61 k_291) rfl rfl rfl (by decide +kernel) ⟨Nat.le_of_ble_eq_true rfl, Nat.le_of_ble_eq_true rfl⟩) ⟨En.blind, va_recv hK hP (ci := 12) (q0 := 0) rfl rfl, fun U hU hW => ⟨rfl, En.of hU hW hP hK hD hN⟩⟩ rfl rfl hl.1 rfl (lv_room (Nat.le_of_ble_eq_true rfl)) dX12_readLock_101 ⟨Nat.le_of_ble_eq_true rfl, Nat.le_of_ble_eq_true rfl⟩) hS (fun q _ h => hFc q h) hFc (fun u_23 t9 H locs ht9 hvm hw hB hz1 hk1 hS => ?_)
    obtain ⟨v23, nm23, f23, g23⟩ := u_23
    obtain ⟨hP1, hD1⟩ := hB
    rw [ht9] at hP1
    obtain ⟨hv, hf, hR, hL, xu_23V, xu_23F, wu_23, xu_23_M, xu_23_E, xu_23_O⟩ := hw
    have hP : va_P G vwCl (WMs cy mo h v23 nm23 f23 g23) H := hP1
    have hD : va_D A (WMs cy mo h v23 nm23 f23 g23) := hD1.weaken (fun _ _ _ h => hFc _ h)
    dsimp only at hv hf hR hL wu_23 xu_23V xu_23F xu_23_M xu_23_E xu_23_O
    clear hFc hk1 hz1 hP1 hD1
    have hV_0 := FV.tr hV_0 xu_23V (by decide)
    have hF_0 := FF.tr hF_0 xu_23F (by decide)
    have wu_23 : ((v23 7).toInt ≤ (v 3).toInt ∧ ((v23 4).toInt ≠ 0 ∨ (v20 4).toInt = 0)) := by
      have h9 : ((v23 7).toInt ≤ (v20 3).toInt ∧ ((v23 4).toInt ≠ 0 ∨ (v20 4).toInt = 0)) := wu_23
      rw [(show v20 3 = (v 3) from ((xu_20V 3 (by decide)).trans ((xu_17V 3 (by decide)).trans ((xu_16V 3 (by decide)).trans (xu_14V 3 (by decide))))))] at h9
      exact h9
    have xu_23_M : 0 ≤ mz (v 3).toInt (v23 7).toInt (v23 8).toInt ∧ mz (v 3).toInt (v23 7).toInt (v23 8).toInt ≤ mz (v 3).toInt (v20 7).toInt (v20 8).toInt := by
      have h9 : 0 ≤ mz (v20 3).toInt (v23 7).toInt (v23 8).toInt ∧ mz (v20 3).toInt (v23 7).toInt (v23 8).toInt ≤ mz (v20 3).toInt (v20 7).toInt (v20 8).toInt := xu_23_M
      rw [(show v20 3 = (v 3) from ((xu_20V 3 (by decide)).trans ((xu_17V 3 (by decide)).trans ((xu_16V 3 (by decide)).trans (xu_14V 3 (by decide))))))] at h9
      exact h9
    have xu_23_E : (v23 4).toInt = 0 → wfr (f23 24) (f23 25) (v 31).toInt.toNat (v23 31).toInt.toNat ∧ (v 31).toInt ≤ (v23 31).toInt ∧ (v23 31).toInt ≤ 600 * (v 30).toInt + 9 * ((f23 13) (Int32.toNatClampNeg (v 30))).toInt := by
      have h9 : (v23 4).toInt = 0 → wfr (f23 24) (f23 25) (v20 31).toInt.toNat (v23 31).toInt.toNat ∧ (v20 31).toInt ≤ (v23 31).toInt ∧ (v23 31).toInt ≤ 600 * (v20 30).toInt + 9 * ((f23 13) (Int32.toNatClampNeg (v20 30))).toInt := xu_23_E
      rw [(show v20 31 = (v 31) from ((xu_20V 31 (by decide)).trans ((xu_17V 31 (by decide)).trans ((xu_16V 31 (by decide)).trans (xu_14V 31 (by decide)))))), (show v20 30 = (v 30) from ((xu_20V 30 (by decide)).trans ((xu_17V 30 (by decide)).trans ((xu_16V 30 (by decide)).trans (xu_14V 30 (by decide))))))] at h9
      exact h9
    have xu_23_O : OUT (v 31).toInt (600 * (v 30).toInt + 600) (f 24) (f 25) (f23 24) (f23 25) := by
      have h9 : OUT (v20 31).toInt (600 * (v20 30).toInt + 600) (f 24) (f 25) (f23 24) (f23 25) := xu_23_O
      rw [(show v20 31 = (v 31) from ((xu_20V 31 (by decide)).trans ((xu_17V 31 (by decide)).trans ((xu_16V 31 (by decide)).trans (xu_14V 31 (by decide)))))), (show v20 30 = (v 30) from ((xu_20V 30 (by decide)).trans ((xu_17V 30 (by decide)).trans ((xu_16V 30 (by decide)).trans (xu_14V 30 (by decide))))))] at h9
      exact h9
    have rgU2 : 0 ≤ ((f23 13) (Int32.toNatClampNeg (v 30))).toInt ∧ ((f23 13) (Int32.toNatClampNeg (v 30))).toInt ≤ 60 := hf 13 _ (show (Int32.toNatClampNeg (v 30)) < 2 from by rw [ow_tn]; omega)
    refine lv_aload_n hx hb dX12_readLock_104 rfl (lv_at hl 2 rfl) ?_
    refine mg_20 hx hb ht hown hK hP dX12_readLock_105 ?_
    refine lv_iload_n hx hb dX12_readLock_108 rfl (lv_at hl 1 rfl) ?_
    refine lv_aload_n hx hb dX12_readLock_109 rfl (lv_at hl 2 rfl) ?_
    refine mg_31 hx hb ht hown hK hP dX12_readLock_110 ?_
    have q_24 : 0 ≤ (v23 31).toInt ∧ (v23 31).toInt ≤ 1200 := hv 31
    have q_25 : vp_in v_8 16 := vp_in_iff.mpr ⟨by omega, by omega⟩
    refine ms_20 hx hb hK hP hD hS q_25 dX12_readLock_113 (fun H locs hP hD hS => ?_)
    have hf := MIf.up 20 (i := (Int32.toNatClampNeg v_8)) hf (show 0 ≤ (v23 31).toInt ∧ (v23 31).toInt ≤ 1200 from by omega)
    have hF_0 := FF.up hF_0 20 (upd (f23 20) (Int32.toNatClampNeg v_8) (v23 31)) (by decide)
    have hL : WL v23 (va_up f23 20 (upd (f23 20) (Int32.toNatClampNeg v_8) (v23 31))) := WL.upf 20 hL (by decide)
    have hb9 : ((Int32.toNatClampNeg v_8 : Nat) : Int) < 8 * ((Int32.toNatClampNeg (v23 29) : Nat) : Int) ∨ 8 * ((Int32.toNatClampNeg (v23 29) : Nat) : Int) + 8 ≤ ((Int32.toNatClampNeg v_8 : Nat) : Int) := by rw [show v23 29 = (v 29) from ((xu_23V 29 (by decide)).trans ((xu_20V 29 (by decide)).trans ((xu_17V 29 (by decide)).trans ((xu_16V 29 (by decide)).trans (xu_14V 29 (by decide))))))]; rw [ow_tn, ow_tn]; omega
    have hb8 : Int32.toNatClampNeg (v23 29) < 2 := by rw [show v23 29 = (v 29) from ((xu_23V 29 (by decide)).trans ((xu_20V 29 (by decide)).trans ((xu_17V 29 (by decide)).trans ((xu_16V 29 (by decide)).trans (xu_14V 29 (by decide))))))]; rw [ow_tn]; omega
    have hR : RI v23 (va_up f23 20 (upd (f23 20) (Int32.toNatClampNeg v_8) (v23 31))) := RIb.w20 hR (hf 12 _ hb8).2 hb9
    refine lv_aload_n hx hb dX12_readLock_114 rfl (lv_at hl 2 rfl) ?_
    refine mg_23 hx hb ht hown hK hP dX12_readLock_115 ?_
    refine lv_iload_n hx hb dX12_readLock_118 rfl (lv_at hl 1 rfl) ?_
    refine lv_lload_n hx hb dX12_readLock_119 rfl (lv_at hl 0 rfl) ?_
    have q_26 : vp_in v_8 16 := vp_in_iff.mpr ⟨by omega, by omega⟩
    refine ms_23 hx hb hK hP hD hS q_26 dX12_readLock_120 (fun H locs hP hD hS => ?_)
    refine lv_aload_n hx hb dX12_readLock_121 rfl (lv_at hl 2 rfl) ?_
    refine mg_12 hx hb ht hown hK hP dX12_readLock_122 ?_
    refine lv_aload_n hx hb dX12_readLock_125 rfl (lv_at hl 2 rfl) ?_
    refine mg_30 hx hb ht hown hK hP dX12_readLock_126 ?_
    refine ow_top (v 30) ((xu_23V 30 (by decide)).trans ((xu_20V 30 (by decide)).trans ((xu_17V 30 (by decide)).trans ((xu_16V 30 (by decide)).trans (xu_14V 30 (by decide)))))) ?_
    have q_27 : 0 ≤ (v 30).toInt ∧ (v 30).toInt ≤ 1 := by have h9 : v23 30 = (v 30) := ((xu_23V 30 (by decide)).trans ((xu_20V 30 (by decide)).trans ((xu_17V 30 (by decide)).trans ((xu_16V 30 (by decide)).trans (xu_14V 30 (by decide)))))); rw [← h9]; exact hv 30
    refine lv_dup2_11 hx hb dX12_readLock_129 rfl rfl ?_
    have q_28 : vp_in (v 30) 2 := vp_in_iff.mpr ⟨by omega, by omega⟩
    refine ml_12 hx hb hK hP q_28 dX12_readLock_130 ?_
    refine lv_topi (fun v_29 ev_29 => ?_)
    have q_30 : 0 ≤ v_29.toInt ∧ v_29.toInt ≤ 8 := by rw [ev_29]; exact MIf.rd 12 hf q_28
    have q_31 : v_29.toInt = ((f 12) (Int32.toNatClampNeg (v 30))).toInt := (congrArg Int32.toInt ev_29).trans (congrArg (fun z : Nat → Int32 => (z (Int32.toNatClampNeg (v 30))).toInt) (show (va_up f23 20 (upd (f23 20) (Int32.toNatClampNeg v_8) (v23 31))) 12 = (f 12) from (xu_23F 12 (by decide))))
    refine lv_iconst (v := 1) hx hb dX12_readLock_131 (by decide) ?_
    refine lv_iadd hx hb dX12_readLock_132 ?_
    refine lv_topi (fun v_32 ev_32 => ?_)
    have q_33 : v_32.toInt = v_29.toInt + (1 : Int32).toInt := ow_add ev_32 (by omega) (by omega)
    have q_34 : vp_in (v 30) 2 := vp_in_iff.mpr ⟨by omega, by omega⟩
    refine ms_12 hx hb hK hP hD hS q_34 dX12_readLock_133 (fun H locs hP hD hS => ?_)
    have hf := MIf.up 12 (i := (Int32.toNatClampNeg (v 30))) hf (show 0 ≤ v_32.toInt ∧ v_32.toInt ≤ 8 from by omega)
    have hF_0 := FF.up hF_0 12 (upd ((va_up f23 20 (upd (f23 20) (Int32.toNatClampNeg v_8) (v23 31))) 12) (Int32.toNatClampNeg (v 30)) v_32) (by decide)
    have hb9 : Int32.toNatClampNeg (v23 29) ≠ Int32.toNatClampNeg (v 30) := by rw [show v23 29 = (v 29) from ((xu_23V 29 (by decide)).trans ((xu_20V 29 (by decide)).trans ((xu_17V 29 (by decide)).trans ((xu_16V 29 (by decide)).trans (xu_14V 29 (by decide))))))]; rw [ow_tn, ow_tn]; omega
    have hL : WL v23 (va_up (va_up f23 20 (upd (f23 20) (Int32.toNatClampNeg v_8) (v23 31))) 12 (upd ((va_up f23 20 (upd (f23 20) (Int32.toNatClampNeg v_8) (v23 31))) 12) (Int32.toNatClampNeg (v 30)) v_32)) := WL.w12 hL hb9
    have hb9 : Int32.toNatClampNeg (v23 29) ≠ Int32.toNatClampNeg (v 30) := by rw [show v23 29 = (v 29) from ((xu_23V 29 (by decide)).trans ((xu_20V 29 (by decide)).trans ((xu_17V 29 (by decide)).trans ((xu_16V 29 (by decide)).trans (xu_14V 29 (by decide))))))]; rw [ow_tn, ow_tn]; omega
    have hR : RI v23 (va_up (va_up f23 20 (upd (f23 20) (Int32.toNatClampNeg v_8) (v23 31))) 12 (upd ((va_up f23 20 (upd (f23 20) (Int32.toNatClampNeg v_8) (v23 31))) 12) (Int32.toNatClampNeg (v 30)) v_32)) := RIb.w12 hR hb9
    refine W.widen (k := 0) (n := 0) (Nat.le_of_ble_eq_true rfl) (Nat.le_of_ble_eq_true rfl) ?_
    exact W.vret hx hb hr (fun t ht9 hW => ⟨⟨(v23, nm23, (va_up (va_up f23 20 (upd (f23 20) (Int32.toNatClampNeg v_8) (v23 31))) 12 (upd ((va_up f23 20 (upd (f23 20) (Int32.toNatClampNeg v_8) (v23 31))) 12) (Int32.toNatClampNeg (v 30)) v_32)), (va_up g23 23 (vp_updL (g23 23) (Int32.toNatClampNeg v_8) r_u_14))), rfl, ⟨hv, hf, hR, hL, hV_0, hF_0, (show (v23 7).toInt ≤ (v 3).toInt ∧ ((v23 4).toInt ≠ 0 ∨ (v 4).toInt = 0) from by first | omega | (subst_vars; first | rfl | omega)), (show 0 ≤ mz (v 3).toInt (v23 7).toInt (v23 8).toInt ∧ mz (v 3).toInt (v23 7).toInt (v23 8).toInt ≤ mz (v 3).toInt (v 7).toInt (v 8).toInt from by omega), (show (v23 4).toInt = 0 → PB (v 30).toInt (v23 31).toInt ((f23 13) (Int32.toNatClampNeg (v 30))).toInt (f23 12) (f23 19) (f23 20) (f23 24) (f23 25) (Int32.toNatClampNeg (v 30)) from by rw [(show f23 12 = (upd (f 12) (Int32.toNatClampNeg (v 30)) v_32) from (congrArg (fun z : Nat → Int32 => upd z (Int32.toNatClampNeg (v 30)) v_32) (xu_23F 12 (by decide)))), (show f23 19 = (upd (f 19) (Int32.toNatClampNeg v_8) (v 31)) from (xu_23F 19 (by decide))), (show f23 20 = (upd (f 20) (Int32.toNatClampNeg v_8) (v23 31)) from (congrArg (fun z : Nat → Int32 => upd z (Int32.toNatClampNeg v_8) (v23 31)) (xu_23F 20 (by decide))))]; exact fun h9 => PB.add hPB (by rw [ow_tn]; omega) (by omega) (by rw [ow_tn, ow_tn]; omega) (by omega) rfl rfl xu_23_O (xu_23_E h9).1 (xu_23_E h9).2.1 (xu_23_E h9).2.2 rgU2.2)⟩, ⟨by rw [ht9]; exact hP, hD⟩⟩, hS.F ht9⟩) hS.2.2 dX12_readLock_134
  refine lv_if_lt (tgt := 50) hx hb dX12_readLock_43 (by decide) (fun c_35 => ?_) (fun c_35 => ?_)
  · have q_36 : r_u_12.toInt < (0 : Int32).toInt := (ow_lt _ _).mp c_35
    refine lv_iconst (v := 0) hx hb dX12_readLock_50 (by decide) ?_
    refine W.widen (k := 0) (n := 0) (Nat.le_of_ble_eq_true rfl) (Nat.le_of_ble_eq_true rfl) ?_
    exact jn_13 (0) _ _ _ (by omega) hP hD hS (lv_sub hl [0, 1] rfl)
  · have q_37 : (0 : Int32).toInt ≤ r_u_12.toInt := by have := (not_congr (ow_lt _ _)).mp c_35; omega
    refine lv_iconst (v := 1) hx hb dX12_readLock_46 (by decide) ?_
    refine lv_goto (tgt := 51) hx hb dX12_readLock_47 (by decide) ?_
    refine W.widen (k := 0) (n := 0) (Nat.le_of_ble_eq_true rfl) (Nat.le_of_ble_eq_true rfl) ?_
    exact jn_13 (1) _ _ _ (by omega) hP hD hS (lv_sub hl [0, 1] rfl)
set_option maxHeartbeats 4000000 in
set_option maxRecDepth 100000 in
theorem m_readLine (l : Launch) (G : va_G) (cy : Nat → ClassId) (sz : Nat) (mo : Nat) (h : Nat → Nat) (T : Int) (v : Nat → Int32) (nm : Int64) (f : Nat → Nat → Int32) (g : Nat → Nat → Int64)   (hv : MIv T v) (hf : MIf f) (hR : RI v f) (hL : WL v f) (he : (v 7).toInt ≤ (v 3).toInt) (hrb : (v 30).toInt + (v 29).toInt = 1) (hfk : (v 4).toInt = 0) (htk : (v 8).toInt ≠ 0) (hPB : PB (v 30).toInt (v 31).toInt (f 13 (Int32.toNatClampNeg (v 30))).toInt (f 12) (f 19) (f 20) (f 24) (f 25) (Int32.toNatClampNeg (v 30))) : Met l yX12_readLine (.code yX12_readLine cX12_readLine 3 none :: TBg) ({ frames := 7, cells := 0, slots := 0, locals := 448 }) (va_Pc [.ref mo] (En G cy (WMs cy mo h v nm f g) sz)) (va_Qv (fun (u : (Nat → Int32) × Int64 × (Nat → Nat → Int32) × (Nat → Nat → Int64)) => MIv T u.1 ∧ MIf u.2.2.1 ∧ RI u.1 u.2.2.1 ∧ WL u.1 u.2.2.1 ∧ FV [4, 5, 6, 7, 8, 9, 31, 32, 33] v u.1 ∧ FF [11, 12, 13, 14, 15, 16, 17, 18, 19, 20, 21, 24, 25, 26, 27] f u.2.2.1 ∧ (((u.1 7).toInt ≤ (v 3).toInt)) ∧ (0 ≤ mz (v 3).toInt (u.1 7).toInt (u.1 8).toInt ∧ mz (v 3).toInt (u.1 7).toInt (u.1 8).toInt ≤ mz (v 3).toInt (v 7).toInt (v 8).toInt ∧ ((u.1 4).toInt ≠ 0 ∨ mz (v 3).toInt (u.1 7).toInt (u.1 8).toInt < mz (v 3).toInt (v 7).toInt (v 8).toInt)) ∧ ((u.1 4).toInt = 0 → PB (v 30).toInt (u.1 31).toInt (u.2.2.1 13 (Int32.toNatClampNeg (v 30))).toInt (u.2.2.1 12) (u.2.2.1 19) (u.2.2.1 20) (u.2.2.1 24) (u.2.2.1 25) (Int32.toNatClampNeg (v 30)))) (fun u t => Ex G (va_A (WMs cy mo h v nm f g) sz) (WMs cy mo h u.1 u.2.1 u.2.2.1 u.2.2.2) t) (va_A (WMs cy mo h v nm f g) sz)) 0 0 (va_A (WMs cy mo h v nm f g) sz) := by
  refine Met.ofW (cc := cX12_readLine) (maxL := 3) (ret := none) (by decide) rfl ?_
  intro p e s m args below meth c s₁ B hml hv9
  obtain ⟨rfl, hsz, hP, hK, hD0, hN⟩ := hv9
  have hx := B.exec
  have hb := B.bytes
  have hr := B.returns
  have hts := atoms_spec (ws := .code yX12_readLine cX12_readLine 3 none :: TBg) B.pre
  have ht : ∀ w ∈ TBg, w.before _ s = true := fun w h => hts w (List.mem_cons_of_mem _ h)
  have hown : s.vm.findClass RX12 = some m.cls := findClass_of_methodNamed B.named
  have hlocks := B.notSynchronized
  subst hsz
  have hD := hD0.self (sz := s.heap.size)
  generalize hAe : va_A (WMs cy mo h v nm f g) s.heap.size = A at hD ⊢
  have hA : ∀ q : Nat, s.heap.size ≤ q → A q := fun q h => by rw [← hAe]; exact Or.inr h
  have hS : va_S A s.heap s.heap [] := va_S.rf
  have hl := lv_entry ([.ref mo]) (n := 3) (Nat.le_of_ble_eq_true rfl)
  rw [lg_entry_eq]
  generalize (lg_sl ([.ref mo]) ++ List.replicate (3 - (lg_sl ([.ref mo])).length) Slot.unset).toArray = ls at hl ⊢
  have hl : lv_has ls 3 [(0, .ref mo)] := hl
  have z0 : (0 : Int32).toInt = 0 := by decide
  have z1 : (3 : Int32).toInt = 3 := by decide
  have z2 : (59 : Int32).toInt = 59 := by decide
  have hf_0 := hf
  have hV_0 : FV [4, 5, 6, 7, 8, 9, 31, 32, 33] v v := FV.rf
  have hF_0 : FF [11, 12, 13, 14, 15, 16, 17, 18, 19, 20, 21, 24, 25, 26, 27] f f := FF.rf
  have hmz0 : 0 ≤ mz (v 3).toInt (v 7).toInt (v 8).toInt := mz_nn he
  have hv0 := hv
  refine lv_aload_n hx hb dX12_readLine_0 rfl (lv_at hl 0 rfl) ?_
  refine mg_10 hx hb ht hown hK hP dX12_readLine_1 ?_
  refine lv_lstore_n (lv' := [(1, .long nm), (0, .ref mo)]) hx hb dX12_readLine_4 rfl hl (by decide) rfl (fun ls hl => ?_)
  refine lv_aload_n hx hb dX12_readLine_5 rfl (lv_at hl 1 rfl) ?_
  refine mg_8 hx hb ht hown hK hP dX12_readLine_6 ?_
  refine lv_iconst (v := 3) hx hb dX12_readLine_9 (by decide) ?_
  refine lv_icmp_ne (tgt := 20) hx hb dX12_readLine_10 (by decide) (fun c_1 => ?_) (fun c_1 => ?_)
  · have q_2 : ¬ (v 8).toInt = (3 : Int32).toInt := by have := (not_congr (ow_eq _ _)).mp c_1; omega
    refine lv_aload_n hx hb dX12_readLine_20 rfl (lv_at hl 1 rfl) ?_
    have hFc := fr_free hD hS hA
    refine va_callv (va_runV (As := []) (rest := []) ⟨hx, hb, hml, hown, ht⟩ (m_misplaced l G cy _ mo h T v nm f g   hv hf hR hL) (cwV 0 ht (gv k_228 k_229 k_230 k_61 k_227) rfl rfl rfl (by decide +kernel) ⟨Nat.le_of_ble_eq_true rfl, Nat.le_of_ble_eq_true rfl⟩) ⟨En.blind, va_recv hK hP (ci := 12) (q0 := 0) rfl rfl, fun U hU hW => ⟨rfl, En.of hU hW hP hK hD hN⟩⟩ rfl rfl hl.1 rfl (lv_room (Nat.le_of_ble_eq_true rfl)) dX12_readLine_21 ⟨Nat.le_of_ble_eq_true rfl, Nat.le_of_ble_eq_true rfl⟩) hS (fun q _ h => hFc q h) hFc (fun u_3 t9 H locs ht9 hvm hw hB hz1 hk1 hS => ?_)
    obtain ⟨v3, nm3⟩ := u_3
    obtain ⟨hP1, hD1⟩ := hB
    rw [ht9] at hP1
    obtain ⟨hv, xu_3V, wu_3⟩ := hw
    dsimp only at hv xu_3V wu_3
    have hP : va_P G vwCl (WMs cy mo h v3 nm3 f g) H := hP1
    have hD : va_D A (WMs cy mo h v3 nm3 f g) := hD1.weaken (fun _ _ _ h => hFc _ h)
    have hR : RI v3 f := RI.fv hR xu_3V (by decide)
    have hL : WL v3 f := WL.fv hL xu_3V (by decide) (by decide)
    have hV_0 := FV.tr hV_0 xu_3V (by decide)
    clear hFc hk1 hz1 hP1 hD1
    have wu_3 : (1 ≤ (v3 4).toInt) := wu_3
    refine lv_aload_n hx hb dX12_readLine_24 rfl (lv_at hl 1 rfl) ?_
    have hFc := fr_new hS hA
    refine va_calli (va_runV (As := []) (rest := []) ⟨hx, hb, hml, hown, ht⟩ (m_isGood l G cy _ mo h T v3 nm3 f g   hv hf hR hL) (cwV 0 ht (gv k_224 k_225 k_226 k_61 k_223) rfl rfl rfl (by decide +kernel) ⟨Nat.le_of_ble_eq_true rfl, Nat.le_of_ble_eq_true rfl⟩) ⟨En.blind, va_recv hK hP (ci := 12) (q0 := 0) rfl rfl, fun U hU hW => ⟨rfl, En.of hU hW hP hK hD hN⟩⟩ rfl rfl hl.1 rfl (lv_room (Nat.le_of_ble_eq_true rfl)) dX12_readLine_25 ⟨Nat.le_of_ble_eq_true rfl, Nat.le_of_ble_eq_true rfl⟩) hS (fun q _ h => hFc q h) hFc (fun r_u_4 u_4 t9 H locs ht9 hvm hw hB hz1 hk1 hS => ?_)
    have hP := fr_keep hP hk1
    have wu_4 := hw
    clear hFc hk1 hz1 hB hw
    have wu_4 : (r_u_4.toInt = 0 ∨ r_u_4.toInt = 1) ∧ ((r_u_4.toInt = 1 ∧ (v3 4).toInt = 0) ∨ (r_u_4.toInt = 0 ∧ (v3 4).toInt ≠ 0)) := wu_4
    refine lv_if_ne (tgt := 32) hx hb dX12_readLine_28 (by decide) (fun c_5 => ?_) (fun c_5 => ?_)
    · have q_6 : ¬ r_u_4.toInt = (0 : Int32).toInt := by have := (not_congr (ow_eq _ _)).mp c_5; omega
      exfalso
      omega
    · have q_7 : r_u_4.toInt = (0 : Int32).toInt := (ow_eq _ _).mp c_5
      refine W.widen (k := 0) (n := 0) (Nat.le_of_ble_eq_true rfl) (Nat.le_of_ble_eq_true rfl) ?_
      exact W.vret hx hb hr (fun t ht9 hW => ⟨⟨(v3, nm3, f, g), rfl, ⟨hv, hf, hR, hL, hV_0, hF_0, (show (v3 7).toInt ≤ (v 3).toInt from by rw [(show v3 7 = (v 7) from (xu_3V 7 (by decide)))]; first | omega | (subst_vars; first | rfl | omega)), (show 0 ≤ mz (v 3).toInt (v3 7).toInt (v3 8).toInt ∧ mz (v 3).toInt (v3 7).toInt (v3 8).toInt ≤ mz (v 3).toInt (v 7).toInt (v 8).toInt ∧ ((v3 4).toInt ≠ 0 ∨ mz (v 3).toInt (v3 7).toInt (v3 8).toInt < mz (v 3).toInt (v 7).toInt (v 8).toInt) from by rw [(show v3 7 = (v 7) from (xu_3V 7 (by decide))), (show v3 8 = (v 8) from (xu_3V 8 (by decide)))]; omega), (show (v3 4).toInt = 0 → PB (v 30).toInt (v3 31).toInt ((f 13) (Int32.toNatClampNeg (v 30))).toInt (f 12) (f 19) (f 20) (f 24) (f 25) (Int32.toNatClampNeg (v 30)) from by rw [(show v3 31 = (v 31) from (xu_3V 31 (by decide)))]; exact fun h9 => absurd h9 (by omega))⟩, ⟨by rw [ht9]; exact hP, hD⟩⟩, hS.F ht9⟩) hS.2.2 dX12_readLine_31
  · have q_8 : (v 8).toInt = (3 : Int32).toInt := (ow_eq _ _).mp c_1
    refine lv_aload_n hx hb dX12_readLine_13 rfl (lv_at hl 1 rfl) ?_
    have hFc := fr_new hS hA
    refine va_calli (va_runV (As := []) (rest := []) ⟨hx, hb, hml, hown, ht⟩ (m_isFull l G cy _ mo h T v nm f g   hv hf hR hL (show (v 8).toInt = 3 from by omega)) (cwV 0 ht (gv k_296 k_297 k_298 k_61 k_295) rfl rfl rfl (by decide +kernel) ⟨Nat.le_of_ble_eq_true rfl, Nat.le_of_ble_eq_true rfl⟩) ⟨En.blind, va_recv hK hP (ci := 12) (q0 := 0) rfl rfl, fun U hU hW => ⟨rfl, En.of hU hW hP hK hD hN⟩⟩ rfl rfl hl.1 rfl (lv_room (Nat.le_of_ble_eq_true rfl)) dX12_readLine_14 ⟨Nat.le_of_ble_eq_true rfl, Nat.le_of_ble_eq_true rfl⟩) hS (fun q _ h => hFc q h) hFc (fun r_u_9 u_9 t9 H locs ht9 hvm hw hB hz1 hk1 hS => ?_)
    have hP := fr_keep hP hk1
    obtain ⟨wu_9, xu_9_F⟩ := hw
    clear hFc hk1 hz1 hB
    have wu_9 : (r_u_9.toInt = 0 ∨ r_u_9.toInt = 1) := wu_9
    have xu_9_F : r_u_9.toInt = 0 → (nm = 1953853029 → ¬ ((f 11) (Int32.toNatClampNeg (v 30))).toInt = 14) ∧ (nm = 1819239275 → ¬ ((f 12) (Int32.toNatClampNeg (v 30))).toInt = 8) := by
      have h9 : r_u_9.toInt = 0 → (nm = 1953853029 → ¬ ((f 11) (Int32.toNatClampNeg (v 30))).toInt = 14) ∧ (nm = 1819239275 → ¬ ((f 12) (Int32.toNatClampNeg (v 30))).toInt = 8) := xu_9_F
      exact h9
    refine lv_if_eq (tgt := 24) hx hb dX12_readLine_17 (by decide) (fun c_10 => ?_) (fun c_10 => ?_)
    · have q_11 : r_u_9.toInt = (0 : Int32).toInt := (ow_eq _ _).mp c_10
      refine lv_aload_n hx hb dX12_readLine_24 rfl (lv_at hl 1 rfl) ?_
      have hFc := fr_new hS hA
      refine va_calli (va_runV (As := []) (rest := []) ⟨hx, hb, hml, hown, ht⟩ (m_isGood l G cy _ mo h T v nm f g   hv hf hR hL) (cwV 0 ht (gv k_224 k_225 k_226 k_61 k_223) rfl rfl rfl (by decide +kernel) ⟨Nat.le_of_ble_eq_true rfl, Nat.le_of_ble_eq_true rfl⟩) ⟨En.blind, va_recv hK hP (ci := 12) (q0 := 0) rfl rfl, fun U hU hW => ⟨rfl, En.of hU hW hP hK hD hN⟩⟩ rfl rfl hl.1 rfl (lv_room (Nat.le_of_ble_eq_true rfl)) dX12_readLine_25 ⟨Nat.le_of_ble_eq_true rfl, Nat.le_of_ble_eq_true rfl⟩) hS (fun q _ h => hFc q h) hFc (fun r_u_12 u_12 t9 H locs ht9 hvm hw hB hz1 hk1 hS => ?_)
      have hP := fr_keep hP hk1
      have wu_12 := hw
      clear hFc hk1 hz1 hB hw
      refine lv_if_ne (tgt := 32) hx hb dX12_readLine_28 (by decide) (fun c_13 => ?_) (fun c_13 => ?_)
      · have q_14 : ¬ r_u_12.toInt = (0 : Int32).toInt := by have := (not_congr (ow_eq _ _)).mp c_13; omega
        refine lv_aload_n hx hb dX12_readLine_32 rfl (lv_at hl 1 rfl) ?_
        have hFc := fr_free hD hS hA
        refine va_callv (va_runV (As := []) (rest := []) ⟨hx, hb, hml, hown, ht⟩ (m_goOn l G cy _ mo h T v nm f g   hv hf hR hL (show (v 7).toInt ≤ (v 3).toInt from by omega)) (cwV 0 ht (gv k_232 k_233 k_234 k_61 k_231) rfl rfl rfl (by decide +kernel) ⟨Nat.le_of_ble_eq_true rfl, Nat.le_of_ble_eq_true rfl⟩) ⟨En.blind, va_recv hK hP (ci := 12) (q0 := 0) rfl rfl, fun U hU hW => ⟨rfl, En.of hU hW hP hK hD hN⟩⟩ rfl rfl hl.1 rfl (lv_room (Nat.le_of_ble_eq_true rfl)) dX12_readLine_33 ⟨Nat.le_of_ble_eq_true rfl, Nat.le_of_ble_eq_true rfl⟩) hS (fun q _ h => hFc q h) hFc (fun u_15 t9 H locs ht9 hvm hw hB hz1 hk1 hS => ?_)
        obtain ⟨v15, nm15⟩ := u_15
        obtain ⟨hP1, hD1⟩ := hB
        rw [ht9] at hP1
        obtain ⟨hv, xu_15V, wu_15, xu_15_M⟩ := hw
        dsimp only at hv xu_15V wu_15 xu_15_M
        have hP : va_P G vwCl (WMs cy mo h v15 nm15 f g) H := hP1
        have hD : va_D A (WMs cy mo h v15 nm15 f g) := hD1.weaken (fun _ _ _ h => hFc _ h)
        have hR : RI v15 f := RI.fv hR xu_15V (by decide)
        have hL : WL v15 f := WL.fv hL xu_15V (by decide) (by decide)
        have hV_0 := FV.tr hV_0 xu_15V (by decide)
        clear hFc hk1 hz1 hP1 hD1
        have wu_15 : ((v15 7).toInt ≤ (v 3).toInt ∧ (((v15 8).toInt = 0 ∧ (v15 7).toInt = (v 3).toInt) ∨ ((v15 8).toInt ≠ 0 ∧ (v 7).toInt < (v15 7).toInt))) := wu_15
        have xu_15_M : 0 ≤ mz (v 3).toInt (v15 7).toInt (v15 8).toInt ∧ mz (v 3).toInt (v15 7).toInt (v15 8).toInt ≤ mz (v 3).toInt (v 7).toInt (v 8).toInt ∧ ((v 8).toInt = 0 ∨ mz (v 3).toInt (v15 7).toInt (v15 8).toInt < mz (v 3).toInt (v 7).toInt (v 8).toInt) := by
          have h9 : 0 ≤ mz (v 3).toInt (v15 7).toInt (v15 8).toInt ∧ mz (v 3).toInt (v15 7).toInt (v15 8).toInt ≤ mz (v 3).toInt (v 7).toInt (v 8).toInt ∧ ((v 8).toInt = 0 ∨ mz (v 3).toInt (v15 7).toInt (v15 8).toInt < mz (v 3).toInt (v 7).toInt (v 8).toInt) := xu_15_M
          exact h9
        refine lv_lload_n hx hb dX12_readLine_36 rfl (lv_at hl 0 rfl) ?_
        refine lv_ldc2 (v := 1953853029) hx hb hown (ht _ k_198) dX12_readLine_37 ?_
        refine W.lcmp hx hb dX12_readLine_40 ?_
        refine lv_topi (fun v_16 ev_16 => ?_)
        refine lv_if_ne (tgt := 48) hx hb dX12_readLine_41 (by decide) (fun c_17 => ?_) (fun c_17 => ?_)
        · have q_18 : ¬ v_16.toInt = (0 : Int32).toInt := by have := (not_congr (ow_eq _ _)).mp c_17; omega
          have lc_19 : ¬ nm = (1953853029 : Int64) := fun h9 => q_18 (by rw [ev_16, (lg_cmp_eq _ _).mpr h9])
          refine lv_lload_n hx hb dX12_readLine_48 rfl (lv_at hl 0 rfl) ?_
          refine lv_ldc2 (v := 1819239275) hx hb hown (ht _ k_200) dX12_readLine_49 ?_
          refine W.lcmp hx hb dX12_readLine_52 ?_
          refine lv_topi (fun v_20 ev_20 => ?_)
          refine lv_if_ne (tgt := 60) hx hb dX12_readLine_53 (by decide) (fun c_21 => ?_) (fun c_21 => ?_)
          · have q_22 : ¬ v_20.toInt = (0 : Int32).toInt := by have := (not_congr (ow_eq _ _)).mp c_21; omega
            have lc_23 : ¬ nm = (1819239275 : Int64) := fun h9 => q_22 (by rw [ev_20, (lg_cmp_eq _ _).mpr h9])
            refine lv_lload_n hx hb dX12_readLine_60 rfl (lv_at hl 0 rfl) ?_
            refine lv_ldc2 (v := 495924372852) hx hb hown (ht _ k_203) dX12_readLine_61 ?_
            refine W.lcmp hx hb dX12_readLine_64 ?_
            refine lv_topi (fun v_24 ev_24 => ?_)
            refine lv_if_ne (tgt := 72) hx hb dX12_readLine_65 (by decide) (fun c_25 => ?_) (fun c_25 => ?_)
            · have q_26 : ¬ v_24.toInt = (0 : Int32).toInt := by have := (not_congr (ow_eq _ _)).mp c_25; omega
              have lc_27 : ¬ nm = (495924372852 : Int64) := fun h9 => q_26 (by rw [ev_24, (lg_cmp_eq _ _).mpr h9])
              refine lv_aload_n hx hb dX12_readLine_72 rfl (lv_at hl 1 rfl) ?_
              refine lv_aload_n hx hb dX12_readLine_73 rfl (lv_at hl 1 rfl) ?_
              refine lv_bipush (v := 59) hx hb dX12_readLine_74 (by decide) ?_
              have hFc := fr_new hS hA
              refine va_calli (va_runV (As := [.int 59]) (rest := [.ref mo]) ⟨hx, hb, hml, hown, ht⟩ (m_stands l G cy _ mo h T v15 nm15 f g (59)  hv hf hR hL) (cwV 1 ht (gv k_244 k_245 k_246 k_61 k_243) rfl rfl rfl (by decide +kernel) ⟨Nat.le_of_ble_eq_true rfl, Nat.le_of_ble_eq_true rfl⟩) ⟨En.blind, va_recv hK hP (ci := 12) (q0 := 0) rfl rfl, fun U hU hW => ⟨rfl, En.of hU hW hP hK hD hN⟩⟩ rfl rfl hl.1 rfl (lv_room (Nat.le_of_ble_eq_true rfl)) dX12_readLine_76 ⟨Nat.le_of_ble_eq_true rfl, Nat.le_of_ble_eq_true rfl⟩) hS (fun q _ h => hFc q h) hFc (fun r_u_28 u_28 t9 H locs ht9 hvm hw hB hz1 hk1 hS => ?_)
              have hP := fr_keep hP hk1
              have wu_28 := hw
              clear hFc hk1 hz1 hB hw
              have wu_28 : (r_u_28.toInt = 0 ∨ r_u_28.toInt = 1) ∧ (r_u_28.toInt = 0 ∨ (r_u_28.toInt = 1 ∧ (v15 8).toInt = 5 ∧ sgn (v 3).toInt (f 1) (v15 6).toInt = (59 : Int32).toInt)) := by
                have h9 : (r_u_28.toInt = 0 ∨ r_u_28.toInt = 1) ∧ (r_u_28.toInt = 0 ∨ (r_u_28.toInt = 1 ∧ (v15 8).toInt = 5 ∧ sgn (v15 3).toInt (f 1) (v15 6).toInt = (59 : Int32).toInt)) := wu_28
                rw [(show v15 3 = (v 3) from (xu_15V 3 (by decide)))] at h9
                exact h9
              have hFc := fr_free hD hS hA
              refine va_callv (va_runV (As := [.int r_u_28]) (rest := []) ⟨hx, hb, hml, hown, ht⟩ (m_must l G cy _ mo h T v15 nm15 f g r_u_28  hv hf hR hL (by omega) (show (v15 7).toInt ≤ (v15 3).toInt from by rw [(show v15 3 = (v 3) from (xu_15V 3 (by decide)))]; omega)) (cwV 1 ht (gv k_268 k_269 k_270 k_61 k_267) rfl rfl rfl (by decide +kernel) ⟨Nat.le_of_ble_eq_true rfl, Nat.le_of_ble_eq_true rfl⟩) ⟨En.blind, va_recv hK hP (ci := 12) (q0 := 0) rfl rfl, fun U hU hW => ⟨rfl, En.of hU hW hP hK hD hN⟩⟩ rfl rfl hl.1 rfl (lv_room (Nat.le_of_ble_eq_true rfl)) dX12_readLine_79 ⟨Nat.le_of_ble_eq_true rfl, Nat.le_of_ble_eq_true rfl⟩) hS (fun q _ h => hFc q h) hFc (fun u_29 t9 H locs ht9 hvm hw hB hz1 hk1 hS => ?_)
              obtain ⟨v29, nm29⟩ := u_29
              obtain ⟨hP1, hD1⟩ := hB
              rw [ht9] at hP1
              obtain ⟨hv, xu_29V, wu_29, xu_29_M⟩ := hw
              dsimp only at hv xu_29V wu_29 xu_29_M
              have hP : va_P G vwCl (WMs cy mo h v29 nm29 f g) H := hP1
              have hD : va_D A (WMs cy mo h v29 nm29 f g) := hD1.weaken (fun _ _ _ h => hFc _ h)
              have hR : RI v29 f := RI.fv hR xu_29V (by decide)
              have hL : WL v29 f := WL.fv hL xu_29V (by decide) (by decide)
              have hV_0 := FV.tr hV_0 xu_29V (by decide)
              clear hFc hk1 hz1 hP1 hD1
              have wu_29 : ((v29 7).toInt ≤ (v 3).toInt ∧ ((v29 4).toInt ≠ 0 ∨ (v 4).toInt = 0)) := by
                have h9 : ((v29 7).toInt ≤ (v15 3).toInt ∧ ((v29 4).toInt ≠ 0 ∨ (v15 4).toInt = 0)) := wu_29
                rw [(show v15 3 = (v 3) from (xu_15V 3 (by decide))), (show v15 4 = (v 4) from (xu_15V 4 (by decide)))] at h9
                exact h9
              have xu_29_M : 0 ≤ mz (v 3).toInt (v29 7).toInt (v29 8).toInt ∧ mz (v 3).toInt (v29 7).toInt (v29 8).toInt ≤ mz (v 3).toInt (v15 7).toInt (v15 8).toInt := by
                have h9 : 0 ≤ mz (v15 3).toInt (v29 7).toInt (v29 8).toInt ∧ mz (v15 3).toInt (v29 7).toInt (v29 8).toInt ≤ mz (v15 3).toInt (v15 7).toInt (v15 8).toInt := xu_29_M
                rw [(show v15 3 = (v 3) from (xu_15V 3 (by decide)))] at h9
                exact h9
              refine W.widen (k := 0) (n := 0) (Nat.le_of_ble_eq_true rfl) (Nat.le_of_ble_eq_true rfl) ?_
              exact W.vret hx hb hr (fun t ht9 hW => ⟨⟨(v29, nm29, f, g), rfl, ⟨hv, hf, hR, hL, hV_0, hF_0, (show (v29 7).toInt ≤ (v 3).toInt from by first | omega | (subst_vars; first | rfl | omega)), (show 0 ≤ mz (v 3).toInt (v29 7).toInt (v29 8).toInt ∧ mz (v 3).toInt (v29 7).toInt (v29 8).toInt ≤ mz (v 3).toInt (v 7).toInt (v 8).toInt ∧ ((v29 4).toInt ≠ 0 ∨ mz (v 3).toInt (v29 7).toInt (v29 8).toInt < mz (v 3).toInt (v 7).toInt (v 8).toInt) from by omega), (show (v29 4).toInt = 0 → PB (v 30).toInt (v29 31).toInt ((f 13) (Int32.toNatClampNeg (v 30))).toInt (f 12) (f 19) (f 20) (f 24) (f 25) (Int32.toNatClampNeg (v 30)) from by rw [(show v29 31 = (v 31) from ((xu_29V 31 (by decide)).trans (xu_15V 31 (by decide))))]; exact fun h9 => hPB)⟩, ⟨by rw [ht9]; exact hP, hD⟩⟩, hS.F ht9⟩) hS.2.2 dX12_readLine_82
            · have q_30 : v_24.toInt = (0 : Int32).toInt := (ow_eq _ _).mp c_25
              have lc_31 : nm = (495924372852 : Int64) := (lg_cmp_eq _ _).mp (by rw [← ev_24]; exact (ow_eq _ _).mpr (by omega))
              refine lv_aload_n hx hb dX12_readLine_68 rfl (lv_at hl 1 rfl) ?_
              have hFc := fr_free hD hS hA
              refine va_callv (va_runV (As := []) (rest := []) ⟨hx, hb, hml, hown, ht⟩ (m_readSweet l G cy _ mo h T v15 nm15 f g   hv hf hR hL (show (v15 7).toInt ≤ (v15 3).toInt from by rw [(show v15 3 = (v 3) from (xu_15V 3 (by decide)))]; omega)) (cwV 0 ht (gv k_300 k_301 k_302 k_61 k_299) rfl rfl rfl (by decide +kernel) ⟨Nat.le_of_ble_eq_true rfl, Nat.le_of_ble_eq_true rfl⟩) ⟨En.blind, va_recv hK hP (ci := 12) (q0 := 0) rfl rfl, fun U hU hW => ⟨rfl, En.of hU hW hP hK hD hN⟩⟩ rfl rfl hl.1 rfl (lv_room (Nat.le_of_ble_eq_true rfl)) dX12_readLine_69 ⟨Nat.le_of_ble_eq_true rfl, Nat.le_of_ble_eq_true rfl⟩) hS (fun q _ h => hFc q h) hFc (fun u_32 t9 H locs ht9 hvm hw hB hz1 hk1 hS => ?_)
              obtain ⟨v32, nm32, f32, g32⟩ := u_32
              obtain ⟨hP1, hD1⟩ := hB
              rw [ht9] at hP1
              obtain ⟨hv, hf, hR, hL, xu_32V, xu_32F, wu_32, xu_32_M⟩ := hw
              have hP : va_P G vwCl (WMs cy mo h v32 nm32 f32 g32) H := hP1
              have hD : va_D A (WMs cy mo h v32 nm32 f32 g32) := hD1.weaken (fun _ _ _ h => hFc _ h)
              dsimp only at hv hf hR hL wu_32 xu_32V xu_32F xu_32_M
              clear hFc hk1 hz1 hP1 hD1
              have hV_0 := FV.tr hV_0 xu_32V (by decide)
              have hF_0 := FF.tr hF_0 xu_32F (by decide)
              have wu_32 : ((v32 7).toInt ≤ (v 3).toInt ∧ ((v32 4).toInt ≠ 0 ∨ (v 4).toInt = 0)) := by
                have h9 : ((v32 7).toInt ≤ (v15 3).toInt ∧ ((v32 4).toInt ≠ 0 ∨ (v15 4).toInt = 0)) := wu_32
                rw [(show v15 3 = (v 3) from (xu_15V 3 (by decide))), (show v15 4 = (v 4) from (xu_15V 4 (by decide)))] at h9
                exact h9
              have xu_32_M : 0 ≤ mz (v 3).toInt (v32 7).toInt (v32 8).toInt ∧ mz (v 3).toInt (v32 7).toInt (v32 8).toInt ≤ mz (v 3).toInt (v15 7).toInt (v15 8).toInt := by
                have h9 : 0 ≤ mz (v15 3).toInt (v32 7).toInt (v32 8).toInt ∧ mz (v15 3).toInt (v32 7).toInt (v32 8).toInt ≤ mz (v15 3).toInt (v15 7).toInt (v15 8).toInt := xu_32_M
                rw [(show v15 3 = (v 3) from (xu_15V 3 (by decide)))] at h9
                exact h9
              refine lv_aload_n hx hb dX12_readLine_72 rfl (lv_at hl 1 rfl) ?_
              refine lv_aload_n hx hb dX12_readLine_73 rfl (lv_at hl 1 rfl) ?_
              refine lv_bipush (v := 59) hx hb dX12_readLine_74 (by decide) ?_
              have hFc := fr_new hS hA
              refine va_calli (va_runV (As := [.int 59]) (rest := [.ref mo]) ⟨hx, hb, hml, hown, ht⟩ (m_stands l G cy _ mo h T v32 nm32 f32 g32 (59)  hv hf hR hL) (cwV 1 ht (gv k_244 k_245 k_246 k_61 k_243) rfl rfl rfl (by decide +kernel) ⟨Nat.le_of_ble_eq_true rfl, Nat.le_of_ble_eq_true rfl⟩) ⟨En.blind, va_recv hK hP (ci := 12) (q0 := 0) rfl rfl, fun U hU hW => ⟨rfl, En.of hU hW hP hK hD hN⟩⟩ rfl rfl hl.1 rfl (lv_room (Nat.le_of_ble_eq_true rfl)) dX12_readLine_76 ⟨Nat.le_of_ble_eq_true rfl, Nat.le_of_ble_eq_true rfl⟩) hS (fun q _ h => hFc q h) hFc (fun r_u_33 u_33 t9 H locs ht9 hvm hw hB hz1 hk1 hS => ?_)
              have hP := fr_keep hP hk1
              have wu_33 := hw
              clear hFc hk1 hz1 hB hw
              have wu_33 : (r_u_33.toInt = 0 ∨ r_u_33.toInt = 1) ∧ (r_u_33.toInt = 0 ∨ (r_u_33.toInt = 1 ∧ (v32 8).toInt = 5 ∧ sgn (v 3).toInt (f 1) (v32 6).toInt = (59 : Int32).toInt)) := by
                have h9 : (r_u_33.toInt = 0 ∨ r_u_33.toInt = 1) ∧ (r_u_33.toInt = 0 ∨ (r_u_33.toInt = 1 ∧ (v32 8).toInt = 5 ∧ sgn (v32 3).toInt (f32 1) (v32 6).toInt = (59 : Int32).toInt)) := wu_33
                rw [(show v32 3 = (v 3) from ((xu_32V 3 (by decide)).trans (xu_15V 3 (by decide)))), (show f32 1 = (f 1) from (xu_32F 1 (by decide)))] at h9
                exact h9
              have hFc := fr_free hD hS hA
              refine va_callv (va_runV (As := [.int r_u_33]) (rest := []) ⟨hx, hb, hml, hown, ht⟩ (m_must l G cy _ mo h T v32 nm32 f32 g32 r_u_33  hv hf hR hL (by omega) (show (v32 7).toInt ≤ (v32 3).toInt from by rw [(show v32 3 = (v 3) from ((xu_32V 3 (by decide)).trans (xu_15V 3 (by decide))))]; omega)) (cwV 1 ht (gv k_268 k_269 k_270 k_61 k_267) rfl rfl rfl (by decide +kernel) ⟨Nat.le_of_ble_eq_true rfl, Nat.le_of_ble_eq_true rfl⟩) ⟨En.blind, va_recv hK hP (ci := 12) (q0 := 0) rfl rfl, fun U hU hW => ⟨rfl, En.of hU hW hP hK hD hN⟩⟩ rfl rfl hl.1 rfl (lv_room (Nat.le_of_ble_eq_true rfl)) dX12_readLine_79 ⟨Nat.le_of_ble_eq_true rfl, Nat.le_of_ble_eq_true rfl⟩) hS (fun q _ h => hFc q h) hFc (fun u_34 t9 H locs ht9 hvm hw hB hz1 hk1 hS => ?_)
              obtain ⟨v34, nm34⟩ := u_34
              obtain ⟨hP1, hD1⟩ := hB
              rw [ht9] at hP1
              obtain ⟨hv, xu_34V, wu_34, xu_34_M⟩ := hw
              dsimp only at hv xu_34V wu_34 xu_34_M
              have hP : va_P G vwCl (WMs cy mo h v34 nm34 f32 g32) H := hP1
              have hD : va_D A (WMs cy mo h v34 nm34 f32 g32) := hD1.weaken (fun _ _ _ h => hFc _ h)
              have hR : RI v34 f32 := RI.fv hR xu_34V (by decide)
              have hL : WL v34 f32 := WL.fv hL xu_34V (by decide) (by decide)
              have hV_0 := FV.tr hV_0 xu_34V (by decide)
              clear hFc hk1 hz1 hP1 hD1
              have wu_34 : ((v34 7).toInt ≤ (v 3).toInt ∧ ((v34 4).toInt ≠ 0 ∨ (v32 4).toInt = 0)) := by
                have h9 : ((v34 7).toInt ≤ (v32 3).toInt ∧ ((v34 4).toInt ≠ 0 ∨ (v32 4).toInt = 0)) := wu_34
                rw [(show v32 3 = (v 3) from ((xu_32V 3 (by decide)).trans (xu_15V 3 (by decide))))] at h9
                exact h9
              have xu_34_M : 0 ≤ mz (v 3).toInt (v34 7).toInt (v34 8).toInt ∧ mz (v 3).toInt (v34 7).toInt (v34 8).toInt ≤ mz (v 3).toInt (v32 7).toInt (v32 8).toInt := by
                have h9 : 0 ≤ mz (v32 3).toInt (v34 7).toInt (v34 8).toInt ∧ mz (v32 3).toInt (v34 7).toInt (v34 8).toInt ≤ mz (v32 3).toInt (v32 7).toInt (v32 8).toInt := xu_34_M
                rw [(show v32 3 = (v 3) from ((xu_32V 3 (by decide)).trans (xu_15V 3 (by decide))))] at h9
                exact h9
              refine W.widen (k := 0) (n := 0) (Nat.le_of_ble_eq_true rfl) (Nat.le_of_ble_eq_true rfl) ?_
              exact W.vret hx hb hr (fun t ht9 hW => ⟨⟨(v34, nm34, f32, g32), rfl, ⟨hv, hf, hR, hL, hV_0, hF_0, (show (v34 7).toInt ≤ (v 3).toInt from by first | omega | (subst_vars; first | rfl | omega)), (show 0 ≤ mz (v 3).toInt (v34 7).toInt (v34 8).toInt ∧ mz (v 3).toInt (v34 7).toInt (v34 8).toInt ≤ mz (v 3).toInt (v 7).toInt (v 8).toInt ∧ ((v34 4).toInt ≠ 0 ∨ mz (v 3).toInt (v34 7).toInt (v34 8).toInt < mz (v 3).toInt (v 7).toInt (v 8).toInt) from by omega), (show (v34 4).toInt = 0 → PB (v 30).toInt (v34 31).toInt ((f32 13) (Int32.toNatClampNeg (v 30))).toInt (f32 12) (f32 19) (f32 20) (f32 24) (f32 25) (Int32.toNatClampNeg (v 30)) from by rw [(show v34 31 = (v 31) from ((xu_34V 31 (by decide)).trans ((xu_32V 31 (by decide)).trans (xu_15V 31 (by decide))))), (show f32 13 = (f 13) from (xu_32F 13 (by decide))), (show f32 12 = (f 12) from (xu_32F 12 (by decide))), (show f32 19 = (f 19) from (xu_32F 19 (by decide))), (show f32 20 = (f 20) from (xu_32F 20 (by decide))), (show f32 24 = (f 24) from (xu_32F 24 (by decide))), (show f32 25 = (f 25) from (xu_32F 25 (by decide)))]; exact fun h9 => hPB)⟩, ⟨by rw [ht9]; exact hP, hD⟩⟩, hS.F ht9⟩) hS.2.2 dX12_readLine_82
          · have q_35 : v_20.toInt = (0 : Int32).toInt := (ow_eq _ _).mp c_21
            have lc_36 : nm = (1819239275 : Int64) := (lg_cmp_eq _ _).mp (by rw [← ev_20]; exact (ow_eq _ _).mpr (by omega))
            have hT9 := (xu_9_F (by omega)).2 lc_36
            have rg30 : 0 ≤ (v 30).toInt ∧ (v 30).toInt ≤ 1 := hv0 30
            have rgT : 0 ≤ (f 12 (Int32.toNatClampNeg (v 30))).toInt ∧ (f 12 (Int32.toNatClampNeg (v 30))).toInt ≤ 8 := hf 12 _ (show (Int32.toNatClampNeg (v 30)) < 2 from by rw [ow_tn]; omega)
            refine lv_aload_n hx hb dX12_readLine_56 rfl (lv_at hl 1 rfl) ?_
            have hFc := fr_free hD hS hA
            refine va_callv (va_runV (As := []) (rest := []) ⟨hx, hb, hml, hown, ht⟩ (m_readLock l G cy _ mo h T v15 nm15 f g   hv hf hR hL (show (v15 7).toInt ≤ (v15 3).toInt from by rw [(show v15 3 = (v 3) from (xu_15V 3 (by decide)))]; omega) (show (v15 30).toInt + (v15 29).toInt = 1 from by rw [(show v15 30 = (v 30) from (xu_15V 30 (by decide))), (show v15 29 = (v 29) from (xu_15V 29 (by decide)))]; omega) (show ((f 12) (Int32.toNatClampNeg (v15 30))).toInt ≤ 7 from by rw [(show v15 30 = (v 30) from (xu_15V 30 (by decide)))]; omega) (show PB (v15 30).toInt (v15 31).toInt ((f 13) (Int32.toNatClampNeg (v15 30))).toInt (f 12) (f 19) (f 20) (f 24) (f 25) (Int32.toNatClampNeg (v15 30)) from by rw [(show v15 30 = (v 30) from (xu_15V 30 (by decide))), (show v15 31 = (v 31) from (xu_15V 31 (by decide)))]; exact hPB)) (cwV 0 ht (gv k_304 k_305 k_306 k_61 k_303) rfl rfl rfl (by decide +kernel) ⟨Nat.le_of_ble_eq_true rfl, Nat.le_of_ble_eq_true rfl⟩) ⟨En.blind, va_recv hK hP (ci := 12) (q0 := 0) rfl rfl, fun U hU hW => ⟨rfl, En.of hU hW hP hK hD hN⟩⟩ rfl rfl hl.1 rfl (lv_room (Nat.le_of_ble_eq_true rfl)) dX12_readLine_57 ⟨Nat.le_of_ble_eq_true rfl, Nat.le_of_ble_eq_true rfl⟩) hS (fun q _ h => hFc q h) hFc (fun u_37 t9 H locs ht9 hvm hw hB hz1 hk1 hS => ?_)
            obtain ⟨v37, nm37, f37, g37⟩ := u_37
            obtain ⟨hP1, hD1⟩ := hB
            rw [ht9] at hP1
            obtain ⟨hv, hf, hR, hL, xu_37V, xu_37F, wu_37, xu_37_M, xu_37_P⟩ := hw
            have hP : va_P G vwCl (WMs cy mo h v37 nm37 f37 g37) H := hP1
            have hD : va_D A (WMs cy mo h v37 nm37 f37 g37) := hD1.weaken (fun _ _ _ h => hFc _ h)
            dsimp only at hv hf hR hL wu_37 xu_37V xu_37F xu_37_M xu_37_P
            clear hFc hk1 hz1 hP1 hD1
            have hV_0 := FV.tr hV_0 xu_37V (by decide)
            have hF_0 := FF.tr hF_0 xu_37F (by decide)
            have wu_37 : ((v37 7).toInt ≤ (v 3).toInt ∧ ((v37 4).toInt ≠ 0 ∨ (v 4).toInt = 0)) := by
              have h9 : ((v37 7).toInt ≤ (v15 3).toInt ∧ ((v37 4).toInt ≠ 0 ∨ (v15 4).toInt = 0)) := wu_37
              rw [(show v15 3 = (v 3) from (xu_15V 3 (by decide))), (show v15 4 = (v 4) from (xu_15V 4 (by decide)))] at h9
              exact h9
            have xu_37_M : 0 ≤ mz (v 3).toInt (v37 7).toInt (v37 8).toInt ∧ mz (v 3).toInt (v37 7).toInt (v37 8).toInt ≤ mz (v 3).toInt (v15 7).toInt (v15 8).toInt := by
              have h9 : 0 ≤ mz (v15 3).toInt (v37 7).toInt (v37 8).toInt ∧ mz (v15 3).toInt (v37 7).toInt (v37 8).toInt ≤ mz (v15 3).toInt (v15 7).toInt (v15 8).toInt := xu_37_M
              rw [(show v15 3 = (v 3) from (xu_15V 3 (by decide)))] at h9
              exact h9
            have xu_37_P : (v37 4).toInt = 0 → PB (v 30).toInt (v37 31).toInt ((f37 13) (Int32.toNatClampNeg (v 30))).toInt (f37 12) (f37 19) (f37 20) (f37 24) (f37 25) (Int32.toNatClampNeg (v 30)) := by
              have h9 : (v37 4).toInt = 0 → PB (v15 30).toInt (v37 31).toInt ((f37 13) (Int32.toNatClampNeg (v15 30))).toInt (f37 12) (f37 19) (f37 20) (f37 24) (f37 25) (Int32.toNatClampNeg (v15 30)) := xu_37_P
              rw [(show v15 30 = (v 30) from (xu_15V 30 (by decide)))] at h9
              exact h9
            refine lv_lload_n hx hb dX12_readLine_60 rfl (lv_at hl 0 rfl) ?_
            refine lv_ldc2 (v := 495924372852) hx hb hown (ht _ k_203) dX12_readLine_61 ?_
            refine W.lcmp hx hb dX12_readLine_64 ?_
            refine lv_topi (fun v_38 ev_38 => ?_)
            refine lv_if_ne (tgt := 72) hx hb dX12_readLine_65 (by decide) (fun c_39 => ?_) (fun c_39 => ?_)
            · have q_40 : ¬ v_38.toInt = (0 : Int32).toInt := by have := (not_congr (ow_eq _ _)).mp c_39; omega
              have lc_41 : ¬ nm = (495924372852 : Int64) := fun h9 => q_40 (by rw [ev_38, (lg_cmp_eq _ _).mpr h9])
              refine lv_aload_n hx hb dX12_readLine_72 rfl (lv_at hl 1 rfl) ?_
              refine lv_aload_n hx hb dX12_readLine_73 rfl (lv_at hl 1 rfl) ?_
              refine lv_bipush (v := 59) hx hb dX12_readLine_74 (by decide) ?_
              have hFc := fr_new hS hA
              refine va_calli (va_runV (As := [.int 59]) (rest := [.ref mo]) ⟨hx, hb, hml, hown, ht⟩ (m_stands l G cy _ mo h T v37 nm37 f37 g37 (59)  hv hf hR hL) (cwV 1 ht (gv k_244 k_245 k_246 k_61 k_243) rfl rfl rfl (by decide +kernel) ⟨Nat.le_of_ble_eq_true rfl, Nat.le_of_ble_eq_true rfl⟩) ⟨En.blind, va_recv hK hP (ci := 12) (q0 := 0) rfl rfl, fun U hU hW => ⟨rfl, En.of hU hW hP hK hD hN⟩⟩ rfl rfl hl.1 rfl (lv_room (Nat.le_of_ble_eq_true rfl)) dX12_readLine_76 ⟨Nat.le_of_ble_eq_true rfl, Nat.le_of_ble_eq_true rfl⟩) hS (fun q _ h => hFc q h) hFc (fun r_u_42 u_42 t9 H locs ht9 hvm hw hB hz1 hk1 hS => ?_)
              have hP := fr_keep hP hk1
              have wu_42 := hw
              clear hFc hk1 hz1 hB hw
              have wu_42 : (r_u_42.toInt = 0 ∨ r_u_42.toInt = 1) ∧ (r_u_42.toInt = 0 ∨ (r_u_42.toInt = 1 ∧ (v37 8).toInt = 5 ∧ sgn (v 3).toInt (f 1) (v37 6).toInt = (59 : Int32).toInt)) := by
                have h9 : (r_u_42.toInt = 0 ∨ r_u_42.toInt = 1) ∧ (r_u_42.toInt = 0 ∨ (r_u_42.toInt = 1 ∧ (v37 8).toInt = 5 ∧ sgn (v37 3).toInt (f37 1) (v37 6).toInt = (59 : Int32).toInt)) := wu_42
                rw [(show v37 3 = (v 3) from ((xu_37V 3 (by decide)).trans (xu_15V 3 (by decide)))), (show f37 1 = (f 1) from (xu_37F 1 (by decide)))] at h9
                exact h9
              have hFc := fr_free hD hS hA
              refine va_callv (va_runV (As := [.int r_u_42]) (rest := []) ⟨hx, hb, hml, hown, ht⟩ (m_must l G cy _ mo h T v37 nm37 f37 g37 r_u_42  hv hf hR hL (by omega) (show (v37 7).toInt ≤ (v37 3).toInt from by rw [(show v37 3 = (v 3) from ((xu_37V 3 (by decide)).trans (xu_15V 3 (by decide))))]; omega)) (cwV 1 ht (gv k_268 k_269 k_270 k_61 k_267) rfl rfl rfl (by decide +kernel) ⟨Nat.le_of_ble_eq_true rfl, Nat.le_of_ble_eq_true rfl⟩) ⟨En.blind, va_recv hK hP (ci := 12) (q0 := 0) rfl rfl, fun U hU hW => ⟨rfl, En.of hU hW hP hK hD hN⟩⟩ rfl rfl hl.1 rfl (lv_room (Nat.le_of_ble_eq_true rfl)) dX12_readLine_79 ⟨Nat.le_of_ble_eq_true rfl, Nat.le_of_ble_eq_true rfl⟩) hS (fun q _ h => hFc q h) hFc (fun u_43 t9 H locs ht9 hvm hw hB hz1 hk1 hS => ?_)
              obtain ⟨v43, nm43⟩ := u_43
              obtain ⟨hP1, hD1⟩ := hB
              rw [ht9] at hP1
              obtain ⟨hv, xu_43V, wu_43, xu_43_M⟩ := hw
              dsimp only at hv xu_43V wu_43 xu_43_M
              have hP : va_P G vwCl (WMs cy mo h v43 nm43 f37 g37) H := hP1
              have hD : va_D A (WMs cy mo h v43 nm43 f37 g37) := hD1.weaken (fun _ _ _ h => hFc _ h)
              have hR : RI v43 f37 := RI.fv hR xu_43V (by decide)
              have hL : WL v43 f37 := WL.fv hL xu_43V (by decide) (by decide)
              have hV_0 := FV.tr hV_0 xu_43V (by decide)
              clear hFc hk1 hz1 hP1 hD1
              have wu_43 : ((v43 7).toInt ≤ (v 3).toInt ∧ ((v43 4).toInt ≠ 0 ∨ (v37 4).toInt = 0)) := by
                have h9 : ((v43 7).toInt ≤ (v37 3).toInt ∧ ((v43 4).toInt ≠ 0 ∨ (v37 4).toInt = 0)) := wu_43
                rw [(show v37 3 = (v 3) from ((xu_37V 3 (by decide)).trans (xu_15V 3 (by decide))))] at h9
                exact h9
              have xu_43_M : 0 ≤ mz (v 3).toInt (v43 7).toInt (v43 8).toInt ∧ mz (v 3).toInt (v43 7).toInt (v43 8).toInt ≤ mz (v 3).toInt (v37 7).toInt (v37 8).toInt := by
                have h9 : 0 ≤ mz (v37 3).toInt (v43 7).toInt (v43 8).toInt ∧ mz (v37 3).toInt (v43 7).toInt (v43 8).toInt ≤ mz (v37 3).toInt (v37 7).toInt (v37 8).toInt := xu_43_M
                rw [(show v37 3 = (v 3) from ((xu_37V 3 (by decide)).trans (xu_15V 3 (by decide))))] at h9
                exact h9
              refine W.widen (k := 0) (n := 0) (Nat.le_of_ble_eq_true rfl) (Nat.le_of_ble_eq_true rfl) ?_
              exact W.vret hx hb hr (fun t ht9 hW => ⟨⟨(v43, nm43, f37, g37), rfl, ⟨hv, hf, hR, hL, hV_0, hF_0, (show (v43 7).toInt ≤ (v 3).toInt from by first | omega | (subst_vars; first | rfl | omega)), (show 0 ≤ mz (v 3).toInt (v43 7).toInt (v43 8).toInt ∧ mz (v 3).toInt (v43 7).toInt (v43 8).toInt ≤ mz (v 3).toInt (v 7).toInt (v 8).toInt ∧ ((v43 4).toInt ≠ 0 ∨ mz (v 3).toInt (v43 7).toInt (v43 8).toInt < mz (v 3).toInt (v 7).toInt (v 8).toInt) from by omega), (show (v43 4).toInt = 0 → PB (v 30).toInt (v43 31).toInt ((f37 13) (Int32.toNatClampNeg (v 30))).toInt (f37 12) (f37 19) (f37 20) (f37 24) (f37 25) (Int32.toNatClampNeg (v 30)) from by rw [(show v43 31 = (v37 31) from (xu_43V 31 (by decide)))]; exact fun h9 => xu_37_P (by omega))⟩, ⟨by rw [ht9]; exact hP, hD⟩⟩, hS.F ht9⟩) hS.2.2 dX12_readLine_82
            · have q_44 : v_38.toInt = (0 : Int32).toInt := (ow_eq _ _).mp c_39
              have lc_45 : nm = (495924372852 : Int64) := (lg_cmp_eq _ _).mp (by rw [← ev_38]; exact (ow_eq _ _).mpr (by omega))
              exact absurd (lc_36.symm.trans lc_45) (by decide)
        · have q_46 : v_16.toInt = (0 : Int32).toInt := (ow_eq _ _).mp c_17
          have lc_47 : nm = (1953853029 : Int64) := (lg_cmp_eq _ _).mp (by rw [← ev_16]; exact (ow_eq _ _).mpr (by omega))
          have hT9 := (xu_9_F (by omega)).1 lc_47
          have rg30 : 0 ≤ (v 30).toInt ∧ (v 30).toInt ≤ 1 := hv0 30
          have rgT : 0 ≤ (f 11 (Int32.toNatClampNeg (v 30))).toInt ∧ (f 11 (Int32.toNatClampNeg (v 30))).toInt ≤ 14 := hf 11 _ (show (Int32.toNatClampNeg (v 30)) < 2 from by rw [ow_tn]; omega)
          refine lv_aload_n hx hb dX12_readLine_44 rfl (lv_at hl 1 rfl) ?_
          have hFc := fr_free hD hS hA
          refine va_callv (va_runV (As := []) (rest := []) ⟨hx, hb, hml, hown, ht⟩ (m_readTune l G cy _ mo h T v15 nm15 f g   hv hf hR hL (show (v15 7).toInt ≤ (v15 3).toInt from by rw [(show v15 3 = (v 3) from (xu_15V 3 (by decide)))]; omega) (show ((f 11) (Int32.toNatClampNeg (v15 30))).toInt ≤ 13 from by rw [(show v15 30 = (v 30) from (xu_15V 30 (by decide)))]; omega)) (cwV 0 ht (gv k_308 k_309 k_310 k_61 k_307) rfl rfl rfl (by decide +kernel) ⟨Nat.le_of_ble_eq_true rfl, Nat.le_of_ble_eq_true rfl⟩) ⟨En.blind, va_recv hK hP (ci := 12) (q0 := 0) rfl rfl, fun U hU hW => ⟨rfl, En.of hU hW hP hK hD hN⟩⟩ rfl rfl hl.1 rfl (lv_room (Nat.le_of_ble_eq_true rfl)) dX12_readLine_45 ⟨Nat.le_of_ble_eq_true rfl, Nat.le_of_ble_eq_true rfl⟩) hS (fun q _ h => hFc q h) hFc (fun u_48 t9 H locs ht9 hvm hw hB hz1 hk1 hS => ?_)
          obtain ⟨v48, nm48, f48, g48⟩ := u_48
          obtain ⟨hP1, hD1⟩ := hB
          rw [ht9] at hP1
          obtain ⟨hv, hf, hR, hL, xu_48V, xu_48F, wu_48, xu_48_M⟩ := hw
          have hP : va_P G vwCl (WMs cy mo h v48 nm48 f48 g48) H := hP1
          have hD : va_D A (WMs cy mo h v48 nm48 f48 g48) := hD1.weaken (fun _ _ _ h => hFc _ h)
          dsimp only at hv hf hR hL wu_48 xu_48V xu_48F xu_48_M
          clear hFc hk1 hz1 hP1 hD1
          have hV_0 := FV.tr hV_0 xu_48V (by decide)
          have hF_0 := FF.tr hF_0 xu_48F (by decide)
          have wu_48 : ((v48 7).toInt ≤ (v 3).toInt ∧ ((v48 4).toInt ≠ 0 ∨ (v 4).toInt = 0)) := by
            have h9 : ((v48 7).toInt ≤ (v15 3).toInt ∧ ((v48 4).toInt ≠ 0 ∨ (v15 4).toInt = 0)) := wu_48
            rw [(show v15 3 = (v 3) from (xu_15V 3 (by decide))), (show v15 4 = (v 4) from (xu_15V 4 (by decide)))] at h9
            exact h9
          have xu_48_M : 0 ≤ mz (v 3).toInt (v48 7).toInt (v48 8).toInt ∧ mz (v 3).toInt (v48 7).toInt (v48 8).toInt ≤ mz (v 3).toInt (v15 7).toInt (v15 8).toInt := by
            have h9 : 0 ≤ mz (v15 3).toInt (v48 7).toInt (v48 8).toInt ∧ mz (v15 3).toInt (v48 7).toInt (v48 8).toInt ≤ mz (v15 3).toInt (v15 7).toInt (v15 8).toInt := xu_48_M
            rw [(show v15 3 = (v 3) from (xu_15V 3 (by decide)))] at h9
            exact h9
          refine lv_lload_n hx hb dX12_readLine_48 rfl (lv_at hl 0 rfl) ?_
          refine lv_ldc2 (v := 1819239275) hx hb hown (ht _ k_200) dX12_readLine_49 ?_
          refine W.lcmp hx hb dX12_readLine_52 ?_
          refine lv_topi (fun v_49 ev_49 => ?_)
          refine lv_if_ne (tgt := 60) hx hb dX12_readLine_53 (by decide) (fun c_50 => ?_) (fun c_50 => ?_)
          · have q_51 : ¬ v_49.toInt = (0 : Int32).toInt := by have := (not_congr (ow_eq _ _)).mp c_50; omega
            have lc_52 : ¬ nm = (1819239275 : Int64) := fun h9 => q_51 (by rw [ev_49, (lg_cmp_eq _ _).mpr h9])
            refine lv_lload_n hx hb dX12_readLine_60 rfl (lv_at hl 0 rfl) ?_
            refine lv_ldc2 (v := 495924372852) hx hb hown (ht _ k_203) dX12_readLine_61 ?_
            refine W.lcmp hx hb dX12_readLine_64 ?_
            refine lv_topi (fun v_53 ev_53 => ?_)
            refine lv_if_ne (tgt := 72) hx hb dX12_readLine_65 (by decide) (fun c_54 => ?_) (fun c_54 => ?_)
            · have q_55 : ¬ v_53.toInt = (0 : Int32).toInt := by have := (not_congr (ow_eq _ _)).mp c_54; omega
              have lc_56 : ¬ nm = (495924372852 : Int64) := fun h9 => q_55 (by rw [ev_53, (lg_cmp_eq _ _).mpr h9])
              refine lv_aload_n hx hb dX12_readLine_72 rfl (lv_at hl 1 rfl) ?_
              refine lv_aload_n hx hb dX12_readLine_73 rfl (lv_at hl 1 rfl) ?_
              refine lv_bipush (v := 59) hx hb dX12_readLine_74 (by decide) ?_
              have hFc := fr_new hS hA
              refine va_calli (va_runV (As := [.int 59]) (rest := [.ref mo]) ⟨hx, hb, hml, hown, ht⟩ (m_stands l G cy _ mo h T v48 nm48 f48 g48 (59)  hv hf hR hL) (cwV 1 ht (gv k_244 k_245 k_246 k_61 k_243) rfl rfl rfl (by decide +kernel) ⟨Nat.le_of_ble_eq_true rfl, Nat.le_of_ble_eq_true rfl⟩) ⟨En.blind, va_recv hK hP (ci := 12) (q0 := 0) rfl rfl, fun U hU hW => ⟨rfl, En.of hU hW hP hK hD hN⟩⟩ rfl rfl hl.1 rfl (lv_room (Nat.le_of_ble_eq_true rfl)) dX12_readLine_76 ⟨Nat.le_of_ble_eq_true rfl, Nat.le_of_ble_eq_true rfl⟩) hS (fun q _ h => hFc q h) hFc (fun r_u_57 u_57 t9 H locs ht9 hvm hw hB hz1 hk1 hS => ?_)
              have hP := fr_keep hP hk1
              have wu_57 := hw
              clear hFc hk1 hz1 hB hw
              have wu_57 : (r_u_57.toInt = 0 ∨ r_u_57.toInt = 1) ∧ (r_u_57.toInt = 0 ∨ (r_u_57.toInt = 1 ∧ (v48 8).toInt = 5 ∧ sgn (v 3).toInt (f 1) (v48 6).toInt = (59 : Int32).toInt)) := by
                have h9 : (r_u_57.toInt = 0 ∨ r_u_57.toInt = 1) ∧ (r_u_57.toInt = 0 ∨ (r_u_57.toInt = 1 ∧ (v48 8).toInt = 5 ∧ sgn (v48 3).toInt (f48 1) (v48 6).toInt = (59 : Int32).toInt)) := wu_57
                rw [(show v48 3 = (v 3) from ((xu_48V 3 (by decide)).trans (xu_15V 3 (by decide)))), (show f48 1 = (f 1) from (xu_48F 1 (by decide)))] at h9
                exact h9
              have hFc := fr_free hD hS hA
              refine va_callv (va_runV (As := [.int r_u_57]) (rest := []) ⟨hx, hb, hml, hown, ht⟩ (m_must l G cy _ mo h T v48 nm48 f48 g48 r_u_57  hv hf hR hL (by omega) (show (v48 7).toInt ≤ (v48 3).toInt from by rw [(show v48 3 = (v 3) from ((xu_48V 3 (by decide)).trans (xu_15V 3 (by decide))))]; omega)) (cwV 1 ht (gv k_268 k_269 k_270 k_61 k_267) rfl rfl rfl (by decide +kernel) ⟨Nat.le_of_ble_eq_true rfl, Nat.le_of_ble_eq_true rfl⟩) ⟨En.blind, va_recv hK hP (ci := 12) (q0 := 0) rfl rfl, fun U hU hW => ⟨rfl, En.of hU hW hP hK hD hN⟩⟩ rfl rfl hl.1 rfl (lv_room (Nat.le_of_ble_eq_true rfl)) dX12_readLine_79 ⟨Nat.le_of_ble_eq_true rfl, Nat.le_of_ble_eq_true rfl⟩) hS (fun q _ h => hFc q h) hFc (fun u_58 t9 H locs ht9 hvm hw hB hz1 hk1 hS => ?_)
              obtain ⟨v58, nm58⟩ := u_58
              obtain ⟨hP1, hD1⟩ := hB
              rw [ht9] at hP1
              obtain ⟨hv, xu_58V, wu_58, xu_58_M⟩ := hw
              dsimp only at hv xu_58V wu_58 xu_58_M
              have hP : va_P G vwCl (WMs cy mo h v58 nm58 f48 g48) H := hP1
              have hD : va_D A (WMs cy mo h v58 nm58 f48 g48) := hD1.weaken (fun _ _ _ h => hFc _ h)
              have hR : RI v58 f48 := RI.fv hR xu_58V (by decide)
              have hL : WL v58 f48 := WL.fv hL xu_58V (by decide) (by decide)
              have hV_0 := FV.tr hV_0 xu_58V (by decide)
              clear hFc hk1 hz1 hP1 hD1
              have wu_58 : ((v58 7).toInt ≤ (v 3).toInt ∧ ((v58 4).toInt ≠ 0 ∨ (v48 4).toInt = 0)) := by
                have h9 : ((v58 7).toInt ≤ (v48 3).toInt ∧ ((v58 4).toInt ≠ 0 ∨ (v48 4).toInt = 0)) := wu_58
                rw [(show v48 3 = (v 3) from ((xu_48V 3 (by decide)).trans (xu_15V 3 (by decide))))] at h9
                exact h9
              have xu_58_M : 0 ≤ mz (v 3).toInt (v58 7).toInt (v58 8).toInt ∧ mz (v 3).toInt (v58 7).toInt (v58 8).toInt ≤ mz (v 3).toInt (v48 7).toInt (v48 8).toInt := by
                have h9 : 0 ≤ mz (v48 3).toInt (v58 7).toInt (v58 8).toInt ∧ mz (v48 3).toInt (v58 7).toInt (v58 8).toInt ≤ mz (v48 3).toInt (v48 7).toInt (v48 8).toInt := xu_58_M
                rw [(show v48 3 = (v 3) from ((xu_48V 3 (by decide)).trans (xu_15V 3 (by decide))))] at h9
                exact h9
              refine W.widen (k := 0) (n := 0) (Nat.le_of_ble_eq_true rfl) (Nat.le_of_ble_eq_true rfl) ?_
              exact W.vret hx hb hr (fun t ht9 hW => ⟨⟨(v58, nm58, f48, g48), rfl, ⟨hv, hf, hR, hL, hV_0, hF_0, (show (v58 7).toInt ≤ (v 3).toInt from by first | omega | (subst_vars; first | rfl | omega)), (show 0 ≤ mz (v 3).toInt (v58 7).toInt (v58 8).toInt ∧ mz (v 3).toInt (v58 7).toInt (v58 8).toInt ≤ mz (v 3).toInt (v 7).toInt (v 8).toInt ∧ ((v58 4).toInt ≠ 0 ∨ mz (v 3).toInt (v58 7).toInt (v58 8).toInt < mz (v 3).toInt (v 7).toInt (v 8).toInt) from by omega), (show (v58 4).toInt = 0 → PB (v 30).toInt (v58 31).toInt ((f48 13) (Int32.toNatClampNeg (v 30))).toInt (f48 12) (f48 19) (f48 20) (f48 24) (f48 25) (Int32.toNatClampNeg (v 30)) from by rw [(show v58 31 = (v 31) from ((xu_58V 31 (by decide)).trans ((xu_48V 31 (by decide)).trans (xu_15V 31 (by decide))))), (show f48 13 = (f 13) from (xu_48F 13 (by decide))), (show f48 12 = (f 12) from (xu_48F 12 (by decide))), (show f48 19 = (f 19) from (xu_48F 19 (by decide))), (show f48 20 = (f 20) from (xu_48F 20 (by decide))), (show f48 24 = (f 24) from (xu_48F 24 (by decide))), (show f48 25 = (f 25) from (xu_48F 25 (by decide)))]; exact fun h9 => hPB)⟩, ⟨by rw [ht9]; exact hP, hD⟩⟩, hS.F ht9⟩) hS.2.2 dX12_readLine_82
            · have q_59 : v_53.toInt = (0 : Int32).toInt := (ow_eq _ _).mp c_54
              have lc_60 : nm = (495924372852 : Int64) := (lg_cmp_eq _ _).mp (by rw [← ev_53]; exact (ow_eq _ _).mpr (by omega))
              exact absurd (lc_47.symm.trans lc_60) (by decide)
          · have q_61 : v_49.toInt = (0 : Int32).toInt := (ow_eq _ _).mp c_50
            have lc_62 : nm = (1819239275 : Int64) := (lg_cmp_eq _ _).mp (by rw [← ev_49]; exact (ow_eq _ _).mpr (by omega))
            exact absurd (lc_47.symm.trans lc_62) (by decide)
      · have q_63 : r_u_12.toInt = (0 : Int32).toInt := (ow_eq _ _).mp c_13
        refine W.widen (k := 0) (n := 0) (Nat.le_of_ble_eq_true rfl) (Nat.le_of_ble_eq_true rfl) ?_
        exact W.vret hx hb hr (fun t ht9 hW => ⟨⟨(v, nm, f, g), rfl, ⟨hv, hf, hR, hL, hV_0, hF_0, (show (v 7).toInt ≤ (v 3).toInt from by first | omega | (subst_vars; first | rfl | omega)), (show 0 ≤ mz (v 3).toInt (v 7).toInt (v 8).toInt ∧ mz (v 3).toInt (v 7).toInt (v 8).toInt ≤ mz (v 3).toInt (v 7).toInt (v 8).toInt ∧ ((v 4).toInt ≠ 0 ∨ mz (v 3).toInt (v 7).toInt (v 8).toInt < mz (v 3).toInt (v 7).toInt (v 8).toInt) from by omega), (show (v 4).toInt = 0 → PB (v 30).toInt (v 31).toInt ((f 13) (Int32.toNatClampNeg (v 30))).toInt (f 12) (f 19) (f 20) (f 24) (f 25) (Int32.toNatClampNeg (v 30)) from by exact fun h9 => absurd h9 (by omega))⟩, ⟨by rw [ht9]; exact hP, hD⟩⟩, hS.F ht9⟩) hS.2.2 dX12_readLine_31
    · have q_64 : ¬ r_u_9.toInt = (0 : Int32).toInt := by have := (not_congr (ow_eq _ _)).mp c_10; omega
      refine lv_aload_n hx hb dX12_readLine_20 rfl (lv_at hl 1 rfl) ?_
      have hFc := fr_free hD hS hA
      refine va_callv (va_runV (As := []) (rest := []) ⟨hx, hb, hml, hown, ht⟩ (m_misplaced l G cy _ mo h T v nm f g   hv hf hR hL) (cwV 0 ht (gv k_228 k_229 k_230 k_61 k_227) rfl rfl rfl (by decide +kernel) ⟨Nat.le_of_ble_eq_true rfl, Nat.le_of_ble_eq_true rfl⟩) ⟨En.blind, va_recv hK hP (ci := 12) (q0 := 0) rfl rfl, fun U hU hW => ⟨rfl, En.of hU hW hP hK hD hN⟩⟩ rfl rfl hl.1 rfl (lv_room (Nat.le_of_ble_eq_true rfl)) dX12_readLine_21 ⟨Nat.le_of_ble_eq_true rfl, Nat.le_of_ble_eq_true rfl⟩) hS (fun q _ h => hFc q h) hFc (fun u_65 t9 H locs ht9 hvm hw hB hz1 hk1 hS => ?_)
      obtain ⟨v65, nm65⟩ := u_65
      obtain ⟨hP1, hD1⟩ := hB
      rw [ht9] at hP1
      obtain ⟨hv, xu_65V, wu_65⟩ := hw
      dsimp only at hv xu_65V wu_65
      have hP : va_P G vwCl (WMs cy mo h v65 nm65 f g) H := hP1
      have hD : va_D A (WMs cy mo h v65 nm65 f g) := hD1.weaken (fun _ _ _ h => hFc _ h)
      have hR : RI v65 f := RI.fv hR xu_65V (by decide)
      have hL : WL v65 f := WL.fv hL xu_65V (by decide) (by decide)
      have hV_0 := FV.tr hV_0 xu_65V (by decide)
      clear hFc hk1 hz1 hP1 hD1
      have wu_65 : (1 ≤ (v65 4).toInt) := wu_65
      refine lv_aload_n hx hb dX12_readLine_24 rfl (lv_at hl 1 rfl) ?_
      have hFc := fr_new hS hA
      refine va_calli (va_runV (As := []) (rest := []) ⟨hx, hb, hml, hown, ht⟩ (m_isGood l G cy _ mo h T v65 nm65 f g   hv hf hR hL) (cwV 0 ht (gv k_224 k_225 k_226 k_61 k_223) rfl rfl rfl (by decide +kernel) ⟨Nat.le_of_ble_eq_true rfl, Nat.le_of_ble_eq_true rfl⟩) ⟨En.blind, va_recv hK hP (ci := 12) (q0 := 0) rfl rfl, fun U hU hW => ⟨rfl, En.of hU hW hP hK hD hN⟩⟩ rfl rfl hl.1 rfl (lv_room (Nat.le_of_ble_eq_true rfl)) dX12_readLine_25 ⟨Nat.le_of_ble_eq_true rfl, Nat.le_of_ble_eq_true rfl⟩) hS (fun q _ h => hFc q h) hFc (fun r_u_66 u_66 t9 H locs ht9 hvm hw hB hz1 hk1 hS => ?_)
      have hP := fr_keep hP hk1
      have wu_66 := hw
      clear hFc hk1 hz1 hB hw
      have wu_66 : (r_u_66.toInt = 0 ∨ r_u_66.toInt = 1) ∧ ((r_u_66.toInt = 1 ∧ (v65 4).toInt = 0) ∨ (r_u_66.toInt = 0 ∧ (v65 4).toInt ≠ 0)) := wu_66
      refine lv_if_ne (tgt := 32) hx hb dX12_readLine_28 (by decide) (fun c_67 => ?_) (fun c_67 => ?_)
      · have q_68 : ¬ r_u_66.toInt = (0 : Int32).toInt := by have := (not_congr (ow_eq _ _)).mp c_67; omega
        exfalso
        omega
      · have q_69 : r_u_66.toInt = (0 : Int32).toInt := (ow_eq _ _).mp c_67
        refine W.widen (k := 0) (n := 0) (Nat.le_of_ble_eq_true rfl) (Nat.le_of_ble_eq_true rfl) ?_
        exact W.vret hx hb hr (fun t ht9 hW => ⟨⟨(v65, nm65, f, g), rfl, ⟨hv, hf, hR, hL, hV_0, hF_0, (show (v65 7).toInt ≤ (v 3).toInt from by rw [(show v65 7 = (v 7) from (xu_65V 7 (by decide)))]; first | omega | (subst_vars; first | rfl | omega)), (show 0 ≤ mz (v 3).toInt (v65 7).toInt (v65 8).toInt ∧ mz (v 3).toInt (v65 7).toInt (v65 8).toInt ≤ mz (v 3).toInt (v 7).toInt (v 8).toInt ∧ ((v65 4).toInt ≠ 0 ∨ mz (v 3).toInt (v65 7).toInt (v65 8).toInt < mz (v 3).toInt (v 7).toInt (v 8).toInt) from by rw [(show v65 7 = (v 7) from (xu_65V 7 (by decide))), (show v65 8 = (v 8) from (xu_65V 8 (by decide)))]; omega), (show (v65 4).toInt = 0 → PB (v 30).toInt (v65 31).toInt ((f 13) (Int32.toNatClampNeg (v 30))).toInt (f 12) (f 19) (f 20) (f 24) (f 25) (Int32.toNatClampNeg (v 30)) from by rw [(show v65 31 = (v 31) from (xu_65V 31 (by decide)))]; exact fun h9 => absurd h9 (by omega))⟩, ⟨by rw [ht9]; exact hP, hD⟩⟩, hS.F ht9⟩) hS.2.2 dX12_readLine_31
set_option maxHeartbeats 4000000 in
set_option maxRecDepth 100000 in
theorem m_clearBank (l : Launch) (G : va_G) (cy : Nat → ClassId) (sz : Nat) (mo : Nat) (h : Nat → Nat) (T : Int) (v : Nat → Int32) (nm : Int64) (f : Nat → Nat → Int32) (g : Nat → Nat → Int64)  (cd : Int32) (hv : MIv T v) (hf : MIf f) (hR : RI v f) (hL : WL v f) (hcd : v 30 = cd) (hcr : 0 ≤ cd.toInt ∧ cd.toInt ≤ 1) : Met l yX12_clearBank (.code yX12_clearBank cX12_clearBank 1 none :: TBg) ({ frames := 1, cells := 0, slots := 0, locals := 64 }) (va_Pc [.ref mo] (En G cy (WMs cy mo h v nm f g) sz)) (va_Qv (fun (_ : Unit) => True) (fun _ t => Ex G (va_A (WMs cy mo h v nm f g) sz) (WMs cy mo h (va_up v 31 (600 * cd)) nm (va_up (va_up (va_up (va_up (va_up f 11 (upd (f 11) (Int32.toNatClampNeg cd) 0)) 12 (upd (f 12) (Int32.toNatClampNeg cd) 0)) 13 (upd (f 13) (Int32.toNatClampNeg cd) 0)) 14 (upd (f 14) (Int32.toNatClampNeg cd) 921)) 21 (upd (f 21) (Int32.toNatClampNeg cd) (vp_nar .boolean 0))) g) t) (va_A (WMs cy mo h v nm f g) sz)) 0 0 (va_A (WMs cy mo h v nm f g) sz) := by
  refine Met.ofW (cc := cX12_clearBank) (maxL := 1) (ret := none) (by decide) rfl ?_
  intro p e s m args below meth c s₁ B hml hv9
  obtain ⟨rfl, hsz, hP, hK, hD0, hN⟩ := hv9
  have hx := B.exec
  have hb := B.bytes
  have hr := B.returns
  have hts := atoms_spec (ws := .code yX12_clearBank cX12_clearBank 1 none :: TBg) B.pre
  have ht : ∀ w ∈ TBg, w.before _ s = true := fun w h => hts w (List.mem_cons_of_mem _ h)
  have hown : s.vm.findClass RX12 = some m.cls := findClass_of_methodNamed B.named
  have hlocks := B.notSynchronized
  subst hsz
  have hD := hD0.self (sz := s.heap.size)
  generalize hAe : va_A (WMs cy mo h v nm f g) s.heap.size = A at hD ⊢
  have hA : ∀ q : Nat, s.heap.size ≤ q → A q := fun q h => by rw [← hAe]; exact Or.inr h
  have hS : va_S A s.heap s.heap [] := va_S.rf
  have hl := lv_entry ([.ref mo]) (n := 1) (Nat.le_of_ble_eq_true rfl)
  rw [lg_entry_eq]
  generalize (lg_sl ([.ref mo]) ++ List.replicate (1 - (lg_sl ([.ref mo])).length) Slot.unset).toArray = ls at hl ⊢
  have hl : lv_has ls 1 [(0, .ref mo)] := hl
  have z0 : (0 : Int32).toInt = 0 := by decide
  have z1 : (600 : Int32).toInt = 600 := by decide
  refine lv_aload_n hx hb dX12_clearBank_0 rfl (lv_at hl 0 rfl) ?_
  refine mg_11 hx hb ht hown hK hP dX12_clearBank_1 ?_
  refine lv_aload_n hx hb dX12_clearBank_4 rfl (lv_at hl 0 rfl) ?_
  refine mg_30 hx hb ht hown hK hP dX12_clearBank_5 ?_
  have q_1 : 0 ≤ (v 30).toInt ∧ (v 30).toInt ≤ 1 := hv 30
  refine lv_iconst (v := 0) hx hb dX12_clearBank_8 (by decide) ?_
  have q_2 : vp_in (v 30) 2 := vp_in_iff.mpr ⟨by omega, by omega⟩
  refine ms_11 hx hb hK hP hD hS q_2 dX12_clearBank_9 (fun H locs hP hD hS => ?_)
  have hf := MIf.up 11 (i := (Int32.toNatClampNeg (v 30))) hf (show 0 ≤ (0 : Int32).toInt ∧ (0 : Int32).toInt ≤ 14 from by omega)
  refine lv_aload_n hx hb dX12_clearBank_10 rfl (lv_at hl 0 rfl) ?_
  refine mg_12 hx hb ht hown hK hP dX12_clearBank_11 ?_
  refine lv_aload_n hx hb dX12_clearBank_14 rfl (lv_at hl 0 rfl) ?_
  refine mg_30 hx hb ht hown hK hP dX12_clearBank_15 ?_
  refine lv_iconst (v := 0) hx hb dX12_clearBank_18 (by decide) ?_
  have q_3 : vp_in (v 30) 2 := vp_in_iff.mpr ⟨by omega, by omega⟩
  refine ms_12 hx hb hK hP hD hS q_3 dX12_clearBank_19 (fun H locs hP hD hS => ?_)
  have hf := MIf.up 12 (i := (Int32.toNatClampNeg (v 30))) hf (show 0 ≤ (0 : Int32).toInt ∧ (0 : Int32).toInt ≤ 8 from by omega)
  refine lv_aload_n hx hb dX12_clearBank_20 rfl (lv_at hl 0 rfl) ?_
  refine mg_13 hx hb ht hown hK hP dX12_clearBank_21 ?_
  refine lv_aload_n hx hb dX12_clearBank_24 rfl (lv_at hl 0 rfl) ?_
  refine mg_30 hx hb ht hown hK hP dX12_clearBank_25 ?_
  refine lv_iconst (v := 0) hx hb dX12_clearBank_28 (by decide) ?_
  have q_4 : vp_in (v 30) 2 := vp_in_iff.mpr ⟨by omega, by omega⟩
  refine ms_13 hx hb hK hP hD hS q_4 dX12_clearBank_29 (fun H locs hP hD hS => ?_)
  have hf := MIf.up 13 (i := (Int32.toNatClampNeg (v 30))) hf (show 0 ≤ (0 : Int32).toInt ∧ (0 : Int32).toInt ≤ 60 from by omega)
  refine lv_aload_n hx hb dX12_clearBank_30 rfl (lv_at hl 0 rfl) ?_
  refine mg_14 hx hb ht hown hK hP dX12_clearBank_31 ?_
  refine lv_aload_n hx hb dX12_clearBank_34 rfl (lv_at hl 0 rfl) ?_
  refine mg_30 hx hb ht hown hK hP dX12_clearBank_35 ?_
  refine lv_sipush (v := 921) hx hb dX12_clearBank_38 (by decide) ?_
  have q_5 : vp_in (v 30) 2 := vp_in_iff.mpr ⟨by omega, by omega⟩
  refine ms_14 hx hb hK hP hD hS q_5 dX12_clearBank_41 (fun H locs hP hD hS => ?_)
  have hf := MIf.up 14 (i := (Int32.toNatClampNeg (v 30))) hf (ow_any (921 : Int32))
  refine lv_aload_n hx hb dX12_clearBank_42 rfl (lv_at hl 0 rfl) ?_
  refine mg_21 hx hb ht hown hK hP dX12_clearBank_43 ?_
  refine lv_aload_n hx hb dX12_clearBank_46 rfl (lv_at hl 0 rfl) ?_
  refine mg_30 hx hb ht hown hK hP dX12_clearBank_47 ?_
  refine lv_iconst (v := 0) hx hb dX12_clearBank_50 (by decide) ?_
  have q_6 : vp_in (v 30) 2 := vp_in_iff.mpr ⟨by omega, by omega⟩
  refine ms_21 hx hb hK hP hD hS q_6 dX12_clearBank_51 (fun H locs hP hD hS => ?_)
  have hf := MIf.up 21 (i := (Int32.toNatClampNeg (v 30))) hf (ow_any (vp_nar .boolean 0))
  refine lv_aload_n hx hb dX12_clearBank_52 rfl (lv_at hl 0 rfl) ?_
  refine lv_sipush (v := 600) hx hb dX12_clearBank_53 (by decide) ?_
  refine lv_aload_n hx hb dX12_clearBank_56 rfl (lv_at hl 0 rfl) ?_
  refine mg_30 hx hb ht hown hK hP dX12_clearBank_57 ?_
  refine lv_imul hx hb dX12_clearBank_60 ?_
  refine lv_topi (fun v_7 ev_7 => ?_)
  have q_8 : v_7.toInt = 600 * (v 30).toInt := ow_mul ev_7 (by decide) (by omega) (by omega)
  refine mp_31 hx hb ht hown hK hP hD hS dX12_clearBank_61 (fun H locs hP hD hS => ?_)
  have hv := MIv.up 31 hv (show 0 ≤ v_7.toInt ∧ v_7.toInt ≤ 1200 from by omega)
  refine W.widen (k := 0) (n := 0) (Nat.le_of_ble_eq_true rfl) (Nat.le_of_ble_eq_true rfl) ?_
  subst ev_7 hcd
  exact W.vret hx hb hr (fun t ht9 hW => ⟨⟨(), rfl, trivial, ⟨by rw [ht9]; exact hP, hD⟩⟩, hS.F ht9⟩) hS.2.2 dX12_clearBank_64
set_option maxHeartbeats 4000000 in
set_option maxRecDepth 100000 in
theorem m_town (l : Launch) (G : va_G) (cy : Nat → ClassId) (sz : Nat) (mo : Nat) (h : Nat → Nat) (T : Int) (v : Nat → Int32) (nm : Int64) (f : Nat → Nat → Int32) (g : Nat → Nat → Int64)   (hv : MIv T v) (hf : MIf f) (hR : RI v f) (hL : WL v f)  : Met l yX12_town (.code yX12_town cX12_town 2 (some .int) :: TBg) ({ frames := 8, cells := 0, slots := 0, locals := 512 }) (va_Pc [.ref mo] (En G cy (WMs cy mo h v nm f g) sz)) (va_Qi (fun (r : Int32) (u : (Nat → Int32) × Int64 × (Nat → Nat → Int32) × (Nat → Nat → Int64)) => MIv T u.1 ∧ MIf u.2.2.1 ∧ RI u.1 u.2.2.1 ∧ WL u.1 u.2.2.1 ∧ FV [2, 3, 4, 5, 6, 7, 8, 9, 29, 30, 31, 32, 33, 34, 37, 50] v u.1 ∧ FF [1, 11, 12, 13, 14, 15, 16, 17, 18, 19, 20, 21, 24, 25, 26, 27, 35, 36, 52] f u.2.2.1 ∧ ((-1 ≤ r.toInt ∧ r.toInt ≤ 8))) (fun u t => Ex G (va_A (WMs cy mo h v nm f g) sz) (WMs cy mo h u.1 u.2.1 u.2.2.1 u.2.2.2) t) (va_A (WMs cy mo h v nm f g) sz)) 0 0 (va_A (WMs cy mo h v nm f g) sz) := by
  refine Met.ofW (cc := cX12_town) (maxL := 2) (ret := (some .int)) (by decide) rfl ?_
  intro p e s m args below meth c s₁ B hml hv9
  obtain ⟨rfl, hsz, hP, hK, hD0, hN⟩ := hv9
  have hx := B.exec
  have hb := B.bytes
  have hr := B.returns
  have hts := atoms_spec (ws := .code yX12_town cX12_town 2 (some .int) :: TBg) B.pre
  have ht : ∀ w ∈ TBg, w.before _ s = true := fun w h => hts w (List.mem_cons_of_mem _ h)
  have hown : s.vm.findClass RX12 = some m.cls := findClass_of_methodNamed B.named
  have hlocks := B.notSynchronized
  subst hsz
  have hD := hD0.self (sz := s.heap.size)
  generalize hAe : va_A (WMs cy mo h v nm f g) s.heap.size = A at hD ⊢
  have hA : ∀ q : Nat, s.heap.size ≤ q → A q := fun q h => by rw [← hAe]; exact Or.inr h
  have hS : va_S A s.heap s.heap [] := va_S.rf
  have hl := lv_entry ([.ref mo]) (n := 2) (Nat.le_of_ble_eq_true rfl)
  rw [lg_entry_eq]
  generalize (lg_sl ([.ref mo]) ++ List.replicate (2 - (lg_sl ([.ref mo])).length) Slot.unset).toArray = ls at hl ⊢
  have hl : lv_has ls 2 [(0, .ref mo)] := hl
  have z0 : (-1 : Int32).toInt = -1 := by decide
  have z1 : (0 : Int32).toInt = 0 := by decide
  have z2 : (1 : Int32).toInt = 1 := by decide
  have z3 : (3 : Int32).toInt = 3 := by decide
  have z4 : (8 : Int32).toInt = 8 := by decide
  have z5 : (600 : Int32).toInt = 600 := by decide
  have z6 : (921 : Int32).toInt = 921 := by decide
  have hf_0 := hf
  have hV_0 : FV [2, 3, 4, 5, 6, 7, 8, 9, 29, 30, 31, 32, 33, 34, 37, 50] v v := FV.rf
  have hF_0 : FF [1, 11, 12, 13, 14, 15, 16, 17, 18, 19, 20, 21, 24, 25, 26, 27, 35, 36, 52] f f := FF.rf
  refine lv_aload_n hx hb dX12_town_0 rfl (lv_at hl 0 rfl) ?_
  refine lv_iconst (v := 0) hx hb dX12_town_1 (by decide) ?_
  refine mp_4 hx hb ht hown hK hP hD hS dX12_town_2 (fun H locs hP hD hS => ?_)
  have hv := MIv.up 4 hv (show 0 ≤ (0 : Int32).toInt ∧ (0 : Int32).toInt ≤ 5 from by omega)
  have hL : WL (va_up v 4 0) f := WL.upv 4 hL (by decide)
  have hR : RI (va_up v 4 0) f := RI.upv 4 hR (by decide)
  have hV_0 := FV.up hV_0 4 (0) (by decide)
  refine lv_aload_n hx hb dX12_town_5 rfl (lv_at hl 0 rfl) ?_
  refine lv_iconst (v := (-1)) hx hb dX12_town_6 (by decide) ?_
  refine mp_5 hx hb ht hown hK hP hD hS dX12_town_7 (fun H locs hP hD hS => ?_)
  have hv := MIv.up 5 hv (ow_any ((-1) : Int32))
  have hL : WL (va_up (va_up v 4 0) 5 (-1)) f := WL.upv 5 hL (by decide)
  have hR : RI (va_up (va_up v 4 0) 5 (-1)) f := RI.upv 5 hR (by decide)
  have hV_0 := FV.up hV_0 5 ((-1)) (by decide)
  refine lv_aload_n hx hb dX12_town_10 rfl (lv_at hl 0 rfl) ?_
  refine lv_aload_n hx hb dX12_town_11 rfl (lv_at hl 0 rfl) ?_
  refine mg_2 hx hb ht hown hK hP dX12_town_12 ?_
  refine ow_top (v 2) rfl ?_
  have q_1 : 0 ≤ (v 2).toInt ∧ (v 2).toInt ≤ 1700 := hv 2
  refine mp_3 hx hb ht hown hK hP hD hS dX12_town_15 (fun H locs hP hD hS => ?_)
  have hv := MIv.up 3 hv (show 0 ≤ (v 2).toInt ∧ (v 2).toInt ≤ 1700 from by omega)
  have hL : WL (va_up (va_up (va_up v 4 0) 5 (-1)) 3 (v 2)) f := WL.upv 3 hL (by decide)
  have hR : RI (va_up (va_up (va_up v 4 0) 5 (-1)) 3 (v 2)) f := RI.upv 3 hR (by decide)
  have hV_0 := FV.up hV_0 3 (v 2) (by decide)
  refine lv_iconst (v := 0) hx hb dX12_town_18 (by decide) ?_
  refine lv_istore_n (lv' := [(1, .int 0), (0, .ref mo)]) hx hb dX12_town_19 rfl hl (by decide) rfl (fun ls hl => ?_)
  refine W.widen (k := 0) (n := 0) (Nat.le_of_ble_eq_true rfl) (Nat.le_of_ble_eq_true rfl) ?_
  have lp_2 : ∀ (N_2 : Nat) (x1_2 : Int32) (v2 : Nat → Int32) (nm2 : Int64) (f2 : Nat → Nat → Int32) (g2 : Nat → Nat → Int64) (H : Heap) (locs : List Loc) (ls : Array Slot), MIv T v2 → MIf f2 → RI v2 f2 → WL v2 f2 → FV [] (va_up (va_up (va_up v 4 0) 5 (-1)) 3 (v 2)) v2 → FF [1] f f2 → (0 ≤ x1_2.toInt ∧ x1_2.toInt ≤ 1700) → (1700 - x1_2.toInt).toNat < N_2 → va_P G vwCl (WMs cy mo h v2 nm2 f2 g2) H → va_D A (WMs cy mo h v2 nm2 f2 g2) → va_S A s.heap H locs → lv_has ls 2 [(1, .int x1_2), (0, .ref mo)] → W p l e (headSpec (.code yX12_town cX12_town 2 (some .int) :: TBg) ({ frames := 8, cells := 0, slots := 0, locals := 512 })).room s m ([.ref mo] : List Value).toArray below meth c H locs 0 0 (MQ below (va_Qi (fun (r : Int32) (u : (Nat → Int32) × Int64 × (Nat → Nat → Int32) × (Nat → Nat → Int64)) => MIv T u.1 ∧ MIf u.2.2.1 ∧ RI u.1 u.2.2.1 ∧ WL u.1 u.2.2.1 ∧ FV [2, 3, 4, 5, 6, 7, 8, 9, 29, 30, 31, 32, 33, 34, 37, 50] v u.1 ∧ FF [1, 11, 12, 13, 14, 15, 16, 17, 18, 19, 20, 21, 24, 25, 26, 27, 35, 36, 52] f u.2.2.1 ∧ ((-1 ≤ r.toInt ∧ r.toInt ≤ 8))) (fun u t => Ex G A (WMs cy mo h u.1 u.2.1 u.2.2.1 u.2.2.2) t) A) ([.ref mo] : List Value).toArray s 0 0 A) (F0 m 20 ls []) := by
    intro N_2
    induction N_2 with
    | zero => intro x1_2 v2 nm2 f2 g2 H locs ls hv hf hR hL hV_2 hF_2 qf2_0 hm hP hD hS hl; exact absurd hm (Nat.not_lt_zero _)
    | succ N_2 ih_2 =>
      intro x1_2 v2 nm2 f2 g2 H locs ls hv hf hR hL hV_2 hF_2 qf2_0 hm hP hD hS hl
      have hV_0 := FV.tr hV_0 hV_2 (by decide)
      have hF_0 := FF.tr hF_0 hF_2 (by decide)
      have hW_2 := hV_2
      have hY_2 := hF_2
      refine lv_iload_n hx hb dX12_town_20 rfl (lv_at hl 0 rfl) ?_
      refine lv_aload_n hx hb dX12_town_21 rfl (lv_at hl 1 rfl) ?_
      refine mg_3 hx hb ht hown hK hP dX12_town_22 ?_
      refine ow_top (v 2) (hV_2 3 (by decide)) ?_
      have q_3 : 0 ≤ (v 2).toInt ∧ (v 2).toInt ≤ 1700 := by have h9 : v2 3 = (v 2) := (hV_2 3 (by decide)); rw [← h9]; exact hv 3
      refine lv_icmp_ge (tgt := 46) hx hb dX12_town_25 (by decide) (fun c_4 => ?_) (fun c_4 => ?_)
      · have q_5 : (v 2).toInt ≤ x1_2.toInt := (ow_le _ _).mp c_4
        refine lv_aload_n hx hb dX12_town_46 rfl (lv_at hl 1 rfl) ?_
        refine lv_iconst (v := 0) hx hb dX12_town_47 (by decide) ?_
        refine mp_2 hx hb ht hown hK hP hD hS dX12_town_48 (fun H locs hP hD hS => ?_)
        have hv := MIv.up 2 hv (show 0 ≤ (0 : Int32).toInt ∧ (0 : Int32).toInt ≤ 1700 from by omega)
        have hL : WL (va_up v2 2 0) f2 := WL.upv 2 hL (by decide)
        have hR : RI (va_up v2 2 0) f2 := RI.upv 2 hR (by decide)
        have hV_0 := FV.up hV_0 2 (0) (by decide)
        refine lv_aload_n hx hb dX12_town_51 rfl (lv_at hl 1 rfl) ?_
        refine lv_iconst (v := 0) hx hb dX12_town_52 (by decide) ?_
        refine mp_7 hx hb ht hown hK hP hD hS dX12_town_53 (fun H locs hP hD hS => ?_)
        have hv := MIv.up 7 hv (show 0 ≤ (0 : Int32).toInt ∧ (0 : Int32).toInt ≤ 1701 from by omega)
        have hL : WL (va_up (va_up v2 2 0) 7 0) f2 := WL.upv 7 hL (by decide)
        have hR : RI (va_up (va_up v2 2 0) 7 0) f2 := RI.upv 7 hR (by decide)
        have hV_0 := FV.up hV_0 7 (0) (by decide)
        refine lv_aload_n hx hb dX12_town_56 rfl (lv_at hl 1 rfl) ?_
        refine lv_iconst (v := 1) hx hb dX12_town_57 (by decide) ?_
        refine lv_aload_n hx hb dX12_town_58 rfl (lv_at hl 1 rfl) ?_
        refine mg_29 hx hb ht hown hK hP dX12_town_59 ?_
        refine ow_top (v 29) (hV_2 29 (by decide)) ?_
        have q_6 : 0 ≤ (v 29).toInt ∧ (v 29).toInt ≤ 1 := by have h9 : (va_up (va_up v2 2 0) 7 0) 29 = (v 29) := (hV_2 29 (by decide)); rw [← h9]; exact hv 29
        refine lv_isub hx hb dX12_town_62 ?_
        refine lv_topi (fun v_7 ev_7 => ?_)
        have q_8 : v_7.toInt = (1 : Int32).toInt - (v 29).toInt := ow_sub ev_7 (by omega) (by omega)
        refine mp_30 hx hb ht hown hK hP hD hS dX12_town_63 (fun H locs hP hD hS => ?_)
        have hv := MIv.up 30 hv (show 0 ≤ v_7.toInt ∧ v_7.toInt ≤ 1 from by omega)
        have hL : WL (va_up (va_up (va_up v2 2 0) 7 0) 30 v_7) f2 := WL.upv 30 hL (by decide)
        have hR : RI (va_up (va_up (va_up v2 2 0) 7 0) 30 v_7) f2 := RI.upv 30 hR (by decide)
        have hV_0 := FV.up hV_0 30 v_7 (by decide)
        have rb9 : 0 ≤ v_7.toInt ∧ v_7.toInt ≤ 1 := by omega
        refine lv_aload_n hx hb dX12_town_66 rfl (lv_at hl 1 rfl) ?_
        have hFc := fr_free hD hS hA
        refine va_callv (va_runV (As := []) (rest := []) ⟨hx, hb, hml, hown, ht⟩ (m_clearBank l G cy _ mo h T (va_up (va_up (va_up v2 2 0) 7 0) 30 v_7) nm2 f2 g2  (v_7) hv hf hR hL rfl (show 0 ≤ (v_7).toInt ∧ (v_7).toInt ≤ 1 from by omega)) (cwV 0 ht (gv k_312 k_313 k_314 k_61 k_311) rfl rfl rfl (by decide +kernel) ⟨Nat.le_of_ble_eq_true rfl, Nat.le_of_ble_eq_true rfl⟩) ⟨En.blind, va_recv hK hP (ci := 12) (q0 := 0) rfl rfl, fun U hU hW => ⟨rfl, En.of hU hW hP hK hD hN⟩⟩ rfl rfl hl.1 rfl (lv_room (Nat.le_of_ble_eq_true rfl)) dX12_town_67 ⟨Nat.le_of_ble_eq_true rfl, Nat.le_of_ble_eq_true rfl⟩) hS (fun q _ h => hFc q h) hFc (fun u_9 t9 H locs ht9 hvm hw hB hz1 hk1 hS => ?_)
        obtain ⟨hP1, hD1⟩ := hB
        rw [ht9] at hP1
        have wu_9 := hw
        have q_10 : (600 * v_7).toInt = 600 * v_7.toInt := ow_mul rfl (by decide) (by omega) (by omega)
        have hv := MIv.up 31 hv (show 0 ≤ (600 * v_7).toInt ∧ (600 * v_7).toInt ≤ 1200 from by omega)
        have hR : RI (va_up (va_up (va_up (va_up v2 2 0) 7 0) 30 v_7) 31 (600 * v_7)) f2 := RI.upv 31 hR (by decide)
        have hL : WL (va_up (va_up (va_up (va_up v2 2 0) 7 0) 30 v_7) 31 (600 * v_7)) f2 := WL.upv 31 hL (by decide)
        have hV_0 := FV.up hV_0 31 (600 * v_7) (by decide)
        have hf := MIf.up 11 (i := (Int32.toNatClampNeg v_7)) hf (show (0 : Int) ≤ (0 : Int32).toInt ∧ (0 : Int32).toInt ≤ 14 from by decide)
        have hF_0 := FF.up hF_0 11 (upd (f2 11) (Int32.toNatClampNeg v_7) 0) (by decide)
        have hR : RI (va_up (va_up (va_up (va_up v2 2 0) 7 0) 30 v_7) 31 (600 * v_7)) (va_up f2 11 (upd (f2 11) (Int32.toNatClampNeg v_7) 0)) := RI.up 11 hR (by decide)
        have hL : WL (va_up (va_up (va_up (va_up v2 2 0) 7 0) 30 v_7) 31 (600 * v_7)) (va_up f2 11 (upd (f2 11) (Int32.toNatClampNeg v_7) 0)) := WL.upf 11 hL (by decide)
        have hf := MIf.up 12 (i := (Int32.toNatClampNeg v_7)) hf (show (0 : Int) ≤ (0 : Int32).toInt ∧ (0 : Int32).toInt ≤ 8 from by decide)
        have hF_0 := FF.up hF_0 12 (upd ((va_up f2 11 (upd (f2 11) (Int32.toNatClampNeg v_7) 0)) 12) (Int32.toNatClampNeg v_7) 0) (by decide)
        have hb9 : Int32.toNatClampNeg (v2 29) ≠ Int32.toNatClampNeg v_7 := by rw [show v2 29 = (v 29) from (hV_2 29 (by decide))]; rw [ow_tn, ow_tn]; omega
        have hR : RI (va_up (va_up (va_up (va_up v2 2 0) 7 0) 30 v_7) 31 (600 * v_7)) (va_up (va_up f2 11 (upd (f2 11) (Int32.toNatClampNeg v_7) 0)) 12 (upd ((va_up f2 11 (upd (f2 11) (Int32.toNatClampNeg v_7) 0)) 12) (Int32.toNatClampNeg v_7) 0)) := RIb.w12 hR hb9
        have hb9 : Int32.toNatClampNeg (v2 29) ≠ Int32.toNatClampNeg v_7 := by rw [show v2 29 = (v 29) from (hV_2 29 (by decide))]; rw [ow_tn, ow_tn]; omega
        have hL : WL (va_up (va_up (va_up (va_up v2 2 0) 7 0) 30 v_7) 31 (600 * v_7)) (va_up (va_up f2 11 (upd (f2 11) (Int32.toNatClampNeg v_7) 0)) 12 (upd ((va_up f2 11 (upd (f2 11) (Int32.toNatClampNeg v_7) 0)) 12) (Int32.toNatClampNeg v_7) 0)) := WL.w12 hL hb9
        have hf := MIf.up 13 (i := (Int32.toNatClampNeg v_7)) hf (show (0 : Int) ≤ (0 : Int32).toInt ∧ (0 : Int32).toInt ≤ 60 from by decide)
        have hF_0 := FF.up hF_0 13 (upd ((va_up (va_up f2 11 (upd (f2 11) (Int32.toNatClampNeg v_7) 0)) 12 (upd ((va_up f2 11 (upd (f2 11) (Int32.toNatClampNeg v_7) 0)) 12) (Int32.toNatClampNeg v_7) 0)) 13) (Int32.toNatClampNeg v_7) 0) (by decide)
        have hR : RI (va_up (va_up (va_up (va_up v2 2 0) 7 0) 30 v_7) 31 (600 * v_7)) (va_up (va_up (va_up f2 11 (upd (f2 11) (Int32.toNatClampNeg v_7) 0)) 12 (upd ((va_up f2 11 (upd (f2 11) (Int32.toNatClampNeg v_7) 0)) 12) (Int32.toNatClampNeg v_7) 0)) 13 (upd ((va_up (va_up f2 11 (upd (f2 11) (Int32.toNatClampNeg v_7) 0)) 12 (upd ((va_up f2 11 (upd (f2 11) (Int32.toNatClampNeg v_7) 0)) 12) (Int32.toNatClampNeg v_7) 0)) 13) (Int32.toNatClampNeg v_7) 0)) := RI.up 13 hR (by decide)
        have hL : WL (va_up (va_up (va_up (va_up v2 2 0) 7 0) 30 v_7) 31 (600 * v_7)) (va_up (va_up (va_up f2 11 (upd (f2 11) (Int32.toNatClampNeg v_7) 0)) 12 (upd ((va_up f2 11 (upd (f2 11) (Int32.toNatClampNeg v_7) 0)) 12) (Int32.toNatClampNeg v_7) 0)) 13 (upd ((va_up (va_up f2 11 (upd (f2 11) (Int32.toNatClampNeg v_7) 0)) 12 (upd ((va_up f2 11 (upd (f2 11) (Int32.toNatClampNeg v_7) 0)) 12) (Int32.toNatClampNeg v_7) 0)) 13) (Int32.toNatClampNeg v_7) 0)) := WL.upf 13 hL (by decide)
        have hf := MIf.up 14 (i := (Int32.toNatClampNeg v_7)) hf (ow_any (921 : Int32))
        have hF_0 := FF.up hF_0 14 (upd ((va_up (va_up (va_up f2 11 (upd (f2 11) (Int32.toNatClampNeg v_7) 0)) 12 (upd ((va_up f2 11 (upd (f2 11) (Int32.toNatClampNeg v_7) 0)) 12) (Int32.toNatClampNeg v_7) 0)) 13 (upd ((va_up (va_up f2 11 (upd (f2 11) (Int32.toNatClampNeg v_7) 0)) 12 (upd ((va_up f2 11 (upd (f2 11) (Int32.toNatClampNeg v_7) 0)) 12) (Int32.toNatClampNeg v_7) 0)) 13) (Int32.toNatClampNeg v_7) 0)) 14) (Int32.toNatClampNeg v_7) 921) (by decide)
        have hR : RI (va_up (va_up (va_up (va_up v2 2 0) 7 0) 30 v_7) 31 (600 * v_7)) (va_up (va_up (va_up (va_up f2 11 (upd (f2 11) (Int32.toNatClampNeg v_7) 0)) 12 (upd ((va_up f2 11 (upd (f2 11) (Int32.toNatClampNeg v_7) 0)) 12) (Int32.toNatClampNeg v_7) 0)) 13 (upd ((va_up (va_up f2 11 (upd (f2 11) (Int32.toNatClampNeg v_7) 0)) 12 (upd ((va_up f2 11 (upd (f2 11) (Int32.toNatClampNeg v_7) 0)) 12) (Int32.toNatClampNeg v_7) 0)) 13) (Int32.toNatClampNeg v_7) 0)) 14 (upd ((va_up (va_up (va_up f2 11 (upd (f2 11) (Int32.toNatClampNeg v_7) 0)) 12 (upd ((va_up f2 11 (upd (f2 11) (Int32.toNatClampNeg v_7) 0)) 12) (Int32.toNatClampNeg v_7) 0)) 13 (upd ((va_up (va_up f2 11 (upd (f2 11) (Int32.toNatClampNeg v_7) 0)) 12 (upd ((va_up f2 11 (upd (f2 11) (Int32.toNatClampNeg v_7) 0)) 12) (Int32.toNatClampNeg v_7) 0)) 13) (Int32.toNatClampNeg v_7) 0)) 14) (Int32.toNatClampNeg v_7) 921)) := RI.up 14 hR (by decide)
        have hL : WL (va_up (va_up (va_up (va_up v2 2 0) 7 0) 30 v_7) 31 (600 * v_7)) (va_up (va_up (va_up (va_up f2 11 (upd (f2 11) (Int32.toNatClampNeg v_7) 0)) 12 (upd ((va_up f2 11 (upd (f2 11) (Int32.toNatClampNeg v_7) 0)) 12) (Int32.toNatClampNeg v_7) 0)) 13 (upd ((va_up (va_up f2 11 (upd (f2 11) (Int32.toNatClampNeg v_7) 0)) 12 (upd ((va_up f2 11 (upd (f2 11) (Int32.toNatClampNeg v_7) 0)) 12) (Int32.toNatClampNeg v_7) 0)) 13) (Int32.toNatClampNeg v_7) 0)) 14 (upd ((va_up (va_up (va_up f2 11 (upd (f2 11) (Int32.toNatClampNeg v_7) 0)) 12 (upd ((va_up f2 11 (upd (f2 11) (Int32.toNatClampNeg v_7) 0)) 12) (Int32.toNatClampNeg v_7) 0)) 13 (upd ((va_up (va_up f2 11 (upd (f2 11) (Int32.toNatClampNeg v_7) 0)) 12 (upd ((va_up f2 11 (upd (f2 11) (Int32.toNatClampNeg v_7) 0)) 12) (Int32.toNatClampNeg v_7) 0)) 13) (Int32.toNatClampNeg v_7) 0)) 14) (Int32.toNatClampNeg v_7) 921)) := WL.upf 14 hL (by decide)
        have hf := MIf.up 21 (i := (Int32.toNatClampNeg v_7)) hf (ow_any (vp_nar .boolean 0))
        have hF_0 := FF.up hF_0 21 (upd ((va_up (va_up (va_up (va_up f2 11 (upd (f2 11) (Int32.toNatClampNeg v_7) 0)) 12 (upd ((va_up f2 11 (upd (f2 11) (Int32.toNatClampNeg v_7) 0)) 12) (Int32.toNatClampNeg v_7) 0)) 13 (upd ((va_up (va_up f2 11 (upd (f2 11) (Int32.toNatClampNeg v_7) 0)) 12 (upd ((va_up f2 11 (upd (f2 11) (Int32.toNatClampNeg v_7) 0)) 12) (Int32.toNatClampNeg v_7) 0)) 13) (Int32.toNatClampNeg v_7) 0)) 14 (upd ((va_up (va_up (va_up f2 11 (upd (f2 11) (Int32.toNatClampNeg v_7) 0)) 12 (upd ((va_up f2 11 (upd (f2 11) (Int32.toNatClampNeg v_7) 0)) 12) (Int32.toNatClampNeg v_7) 0)) 13 (upd ((va_up (va_up f2 11 (upd (f2 11) (Int32.toNatClampNeg v_7) 0)) 12 (upd ((va_up f2 11 (upd (f2 11) (Int32.toNatClampNeg v_7) 0)) 12) (Int32.toNatClampNeg v_7) 0)) 13) (Int32.toNatClampNeg v_7) 0)) 14) (Int32.toNatClampNeg v_7) 921)) 21) (Int32.toNatClampNeg v_7) (vp_nar .boolean 0)) (by decide)
        have hR : RI (va_up (va_up (va_up (va_up v2 2 0) 7 0) 30 v_7) 31 (600 * v_7)) (va_up (va_up (va_up (va_up (va_up f2 11 (upd (f2 11) (Int32.toNatClampNeg v_7) 0)) 12 (upd ((va_up f2 11 (upd (f2 11) (Int32.toNatClampNeg v_7) 0)) 12) (Int32.toNatClampNeg v_7) 0)) 13 (upd ((va_up (va_up f2 11 (upd (f2 11) (Int32.toNatClampNeg v_7) 0)) 12 (upd ((va_up f2 11 (upd (f2 11) (Int32.toNatClampNeg v_7) 0)) 12) (Int32.toNatClampNeg v_7) 0)) 13) (Int32.toNatClampNeg v_7) 0)) 14 (upd ((va_up (va_up (va_up f2 11 (upd (f2 11) (Int32.toNatClampNeg v_7) 0)) 12 (upd ((va_up f2 11 (upd (f2 11) (Int32.toNatClampNeg v_7) 0)) 12) (Int32.toNatClampNeg v_7) 0)) 13 (upd ((va_up (va_up f2 11 (upd (f2 11) (Int32.toNatClampNeg v_7) 0)) 12 (upd ((va_up f2 11 (upd (f2 11) (Int32.toNatClampNeg v_7) 0)) 12) (Int32.toNatClampNeg v_7) 0)) 13) (Int32.toNatClampNeg v_7) 0)) 14) (Int32.toNatClampNeg v_7) 921)) 21 (upd ((va_up (va_up (va_up (va_up f2 11 (upd (f2 11) (Int32.toNatClampNeg v_7) 0)) 12 (upd ((va_up f2 11 (upd (f2 11) (Int32.toNatClampNeg v_7) 0)) 12) (Int32.toNatClampNeg v_7) 0)) 13 (upd ((va_up (va_up f2 11 (upd (f2 11) (Int32.toNatClampNeg v_7) 0)) 12 (upd ((va_up f2 11 (upd (f2 11) (Int32.toNatClampNeg v_7) 0)) 12) (Int32.toNatClampNeg v_7) 0)) 13) (Int32.toNatClampNeg v_7) 0)) 14 (upd ((va_up (va_up (va_up f2 11 (upd (f2 11) (Int32.toNatClampNeg v_7) 0)) 12 (upd ((va_up f2 11 (upd (f2 11) (Int32.toNatClampNeg v_7) 0)) 12) (Int32.toNatClampNeg v_7) 0)) 13 (upd ((va_up (va_up f2 11 (upd (f2 11) (Int32.toNatClampNeg v_7) 0)) 12 (upd ((va_up f2 11 (upd (f2 11) (Int32.toNatClampNeg v_7) 0)) 12) (Int32.toNatClampNeg v_7) 0)) 13) (Int32.toNatClampNeg v_7) 0)) 14) (Int32.toNatClampNeg v_7) 921)) 21) (Int32.toNatClampNeg v_7) (vp_nar .boolean 0))) := RI.up 21 hR (by decide)
        have hL : WL (va_up (va_up (va_up (va_up v2 2 0) 7 0) 30 v_7) 31 (600 * v_7)) (va_up (va_up (va_up (va_up (va_up f2 11 (upd (f2 11) (Int32.toNatClampNeg v_7) 0)) 12 (upd ((va_up f2 11 (upd (f2 11) (Int32.toNatClampNeg v_7) 0)) 12) (Int32.toNatClampNeg v_7) 0)) 13 (upd ((va_up (va_up f2 11 (upd (f2 11) (Int32.toNatClampNeg v_7) 0)) 12 (upd ((va_up f2 11 (upd (f2 11) (Int32.toNatClampNeg v_7) 0)) 12) (Int32.toNatClampNeg v_7) 0)) 13) (Int32.toNatClampNeg v_7) 0)) 14 (upd ((va_up (va_up (va_up f2 11 (upd (f2 11) (Int32.toNatClampNeg v_7) 0)) 12 (upd ((va_up f2 11 (upd (f2 11) (Int32.toNatClampNeg v_7) 0)) 12) (Int32.toNatClampNeg v_7) 0)) 13 (upd ((va_up (va_up f2 11 (upd (f2 11) (Int32.toNatClampNeg v_7) 0)) 12 (upd ((va_up f2 11 (upd (f2 11) (Int32.toNatClampNeg v_7) 0)) 12) (Int32.toNatClampNeg v_7) 0)) 13) (Int32.toNatClampNeg v_7) 0)) 14) (Int32.toNatClampNeg v_7) 921)) 21 (upd ((va_up (va_up (va_up (va_up f2 11 (upd (f2 11) (Int32.toNatClampNeg v_7) 0)) 12 (upd ((va_up f2 11 (upd (f2 11) (Int32.toNatClampNeg v_7) 0)) 12) (Int32.toNatClampNeg v_7) 0)) 13 (upd ((va_up (va_up f2 11 (upd (f2 11) (Int32.toNatClampNeg v_7) 0)) 12 (upd ((va_up f2 11 (upd (f2 11) (Int32.toNatClampNeg v_7) 0)) 12) (Int32.toNatClampNeg v_7) 0)) 13) (Int32.toNatClampNeg v_7) 0)) 14 (upd ((va_up (va_up (va_up f2 11 (upd (f2 11) (Int32.toNatClampNeg v_7) 0)) 12 (upd ((va_up f2 11 (upd (f2 11) (Int32.toNatClampNeg v_7) 0)) 12) (Int32.toNatClampNeg v_7) 0)) 13 (upd ((va_up (va_up f2 11 (upd (f2 11) (Int32.toNatClampNeg v_7) 0)) 12 (upd ((va_up f2 11 (upd (f2 11) (Int32.toNatClampNeg v_7) 0)) 12) (Int32.toNatClampNeg v_7) 0)) 13) (Int32.toNatClampNeg v_7) 0)) 14) (Int32.toNatClampNeg v_7) 921)) 21) (Int32.toNatClampNeg v_7) (vp_nar .boolean 0))) := WL.upf 21 hL (by decide)
        have hP : va_P G vwCl (WMs cy mo h (va_up (va_up (va_up (va_up v2 2 0) 7 0) 30 v_7) 31 (600 * v_7)) nm2 (va_up (va_up (va_up (va_up (va_up f2 11 (upd (f2 11) (Int32.toNatClampNeg v_7) 0)) 12 (upd ((va_up f2 11 (upd (f2 11) (Int32.toNatClampNeg v_7) 0)) 12) (Int32.toNatClampNeg v_7) 0)) 13 (upd ((va_up (va_up f2 11 (upd (f2 11) (Int32.toNatClampNeg v_7) 0)) 12 (upd ((va_up f2 11 (upd (f2 11) (Int32.toNatClampNeg v_7) 0)) 12) (Int32.toNatClampNeg v_7) 0)) 13) (Int32.toNatClampNeg v_7) 0)) 14 (upd ((va_up (va_up (va_up f2 11 (upd (f2 11) (Int32.toNatClampNeg v_7) 0)) 12 (upd ((va_up f2 11 (upd (f2 11) (Int32.toNatClampNeg v_7) 0)) 12) (Int32.toNatClampNeg v_7) 0)) 13 (upd ((va_up (va_up f2 11 (upd (f2 11) (Int32.toNatClampNeg v_7) 0)) 12 (upd ((va_up f2 11 (upd (f2 11) (Int32.toNatClampNeg v_7) 0)) 12) (Int32.toNatClampNeg v_7) 0)) 13) (Int32.toNatClampNeg v_7) 0)) 14) (Int32.toNatClampNeg v_7) 921)) 21 (upd ((va_up (va_up (va_up (va_up f2 11 (upd (f2 11) (Int32.toNatClampNeg v_7) 0)) 12 (upd ((va_up f2 11 (upd (f2 11) (Int32.toNatClampNeg v_7) 0)) 12) (Int32.toNatClampNeg v_7) 0)) 13 (upd ((va_up (va_up f2 11 (upd (f2 11) (Int32.toNatClampNeg v_7) 0)) 12 (upd ((va_up f2 11 (upd (f2 11) (Int32.toNatClampNeg v_7) 0)) 12) (Int32.toNatClampNeg v_7) 0)) 13) (Int32.toNatClampNeg v_7) 0)) 14 (upd ((va_up (va_up (va_up f2 11 (upd (f2 11) (Int32.toNatClampNeg v_7) 0)) 12 (upd ((va_up f2 11 (upd (f2 11) (Int32.toNatClampNeg v_7) 0)) 12) (Int32.toNatClampNeg v_7) 0)) 13 (upd ((va_up (va_up f2 11 (upd (f2 11) (Int32.toNatClampNeg v_7) 0)) 12 (upd ((va_up f2 11 (upd (f2 11) (Int32.toNatClampNeg v_7) 0)) 12) (Int32.toNatClampNeg v_7) 0)) 13) (Int32.toNatClampNeg v_7) 0)) 14) (Int32.toNatClampNeg v_7) 921)) 21) (Int32.toNatClampNeg v_7) (vp_nar .boolean 0))) g2) H := hP1
        have hD : va_D A (WMs cy mo h (va_up (va_up (va_up (va_up v2 2 0) 7 0) 30 v_7) 31 (600 * v_7)) nm2 (va_up (va_up (va_up (va_up (va_up f2 11 (upd (f2 11) (Int32.toNatClampNeg v_7) 0)) 12 (upd ((va_up f2 11 (upd (f2 11) (Int32.toNatClampNeg v_7) 0)) 12) (Int32.toNatClampNeg v_7) 0)) 13 (upd ((va_up (va_up f2 11 (upd (f2 11) (Int32.toNatClampNeg v_7) 0)) 12 (upd ((va_up f2 11 (upd (f2 11) (Int32.toNatClampNeg v_7) 0)) 12) (Int32.toNatClampNeg v_7) 0)) 13) (Int32.toNatClampNeg v_7) 0)) 14 (upd ((va_up (va_up (va_up f2 11 (upd (f2 11) (Int32.toNatClampNeg v_7) 0)) 12 (upd ((va_up f2 11 (upd (f2 11) (Int32.toNatClampNeg v_7) 0)) 12) (Int32.toNatClampNeg v_7) 0)) 13 (upd ((va_up (va_up f2 11 (upd (f2 11) (Int32.toNatClampNeg v_7) 0)) 12 (upd ((va_up f2 11 (upd (f2 11) (Int32.toNatClampNeg v_7) 0)) 12) (Int32.toNatClampNeg v_7) 0)) 13) (Int32.toNatClampNeg v_7) 0)) 14) (Int32.toNatClampNeg v_7) 921)) 21 (upd ((va_up (va_up (va_up (va_up f2 11 (upd (f2 11) (Int32.toNatClampNeg v_7) 0)) 12 (upd ((va_up f2 11 (upd (f2 11) (Int32.toNatClampNeg v_7) 0)) 12) (Int32.toNatClampNeg v_7) 0)) 13 (upd ((va_up (va_up f2 11 (upd (f2 11) (Int32.toNatClampNeg v_7) 0)) 12 (upd ((va_up f2 11 (upd (f2 11) (Int32.toNatClampNeg v_7) 0)) 12) (Int32.toNatClampNeg v_7) 0)) 13) (Int32.toNatClampNeg v_7) 0)) 14 (upd ((va_up (va_up (va_up f2 11 (upd (f2 11) (Int32.toNatClampNeg v_7) 0)) 12 (upd ((va_up f2 11 (upd (f2 11) (Int32.toNatClampNeg v_7) 0)) 12) (Int32.toNatClampNeg v_7) 0)) 13 (upd ((va_up (va_up f2 11 (upd (f2 11) (Int32.toNatClampNeg v_7) 0)) 12 (upd ((va_up f2 11 (upd (f2 11) (Int32.toNatClampNeg v_7) 0)) 12) (Int32.toNatClampNeg v_7) 0)) 13) (Int32.toNatClampNeg v_7) 0)) 14) (Int32.toNatClampNeg v_7) 921)) 21) (Int32.toNatClampNeg v_7) (vp_nar .boolean 0))) g2) := hD1.weaken (fun _ _ _ h => hFc _ h)
        clear hFc hk1 hz1 hP1 hD1 hw
        refine lv_aload_n hx hb dX12_town_70 rfl (lv_at hl 1 rfl) ?_
        have hFc := fr_free hD hS hA
        refine va_callv (va_runV (As := []) (rest := []) ⟨hx, hb, hml, hown, ht⟩ (m_goOn l G cy _ mo h T (va_up (va_up (va_up (va_up v2 2 0) 7 0) 30 v_7) 31 (600 * v_7)) nm2 (va_up (va_up (va_up (va_up (va_up f2 11 (upd (f2 11) (Int32.toNatClampNeg v_7) 0)) 12 (upd ((va_up f2 11 (upd (f2 11) (Int32.toNatClampNeg v_7) 0)) 12) (Int32.toNatClampNeg v_7) 0)) 13 (upd ((va_up (va_up f2 11 (upd (f2 11) (Int32.toNatClampNeg v_7) 0)) 12 (upd ((va_up f2 11 (upd (f2 11) (Int32.toNatClampNeg v_7) 0)) 12) (Int32.toNatClampNeg v_7) 0)) 13) (Int32.toNatClampNeg v_7) 0)) 14 (upd ((va_up (va_up (va_up f2 11 (upd (f2 11) (Int32.toNatClampNeg v_7) 0)) 12 (upd ((va_up f2 11 (upd (f2 11) (Int32.toNatClampNeg v_7) 0)) 12) (Int32.toNatClampNeg v_7) 0)) 13 (upd ((va_up (va_up f2 11 (upd (f2 11) (Int32.toNatClampNeg v_7) 0)) 12 (upd ((va_up f2 11 (upd (f2 11) (Int32.toNatClampNeg v_7) 0)) 12) (Int32.toNatClampNeg v_7) 0)) 13) (Int32.toNatClampNeg v_7) 0)) 14) (Int32.toNatClampNeg v_7) 921)) 21 (upd ((va_up (va_up (va_up (va_up f2 11 (upd (f2 11) (Int32.toNatClampNeg v_7) 0)) 12 (upd ((va_up f2 11 (upd (f2 11) (Int32.toNatClampNeg v_7) 0)) 12) (Int32.toNatClampNeg v_7) 0)) 13 (upd ((va_up (va_up f2 11 (upd (f2 11) (Int32.toNatClampNeg v_7) 0)) 12 (upd ((va_up f2 11 (upd (f2 11) (Int32.toNatClampNeg v_7) 0)) 12) (Int32.toNatClampNeg v_7) 0)) 13) (Int32.toNatClampNeg v_7) 0)) 14 (upd ((va_up (va_up (va_up f2 11 (upd (f2 11) (Int32.toNatClampNeg v_7) 0)) 12 (upd ((va_up f2 11 (upd (f2 11) (Int32.toNatClampNeg v_7) 0)) 12) (Int32.toNatClampNeg v_7) 0)) 13 (upd ((va_up (va_up f2 11 (upd (f2 11) (Int32.toNatClampNeg v_7) 0)) 12 (upd ((va_up f2 11 (upd (f2 11) (Int32.toNatClampNeg v_7) 0)) 12) (Int32.toNatClampNeg v_7) 0)) 13) (Int32.toNatClampNeg v_7) 0)) 14) (Int32.toNatClampNeg v_7) 921)) 21) (Int32.toNatClampNeg v_7) (vp_nar .boolean 0))) g2   hv hf hR hL (show (0 : Int32).toInt ≤ (v2 3).toInt from by rw [(show v2 3 = (v 2) from (hV_2 3 (by decide)))]; omega)) (cwV 0 ht (gv k_232 k_233 k_234 k_61 k_231) rfl rfl rfl (by decide +kernel) ⟨Nat.le_of_ble_eq_true rfl, Nat.le_of_ble_eq_true rfl⟩) ⟨En.blind, va_recv hK hP (ci := 12) (q0 := 0) rfl rfl, fun U hU hW => ⟨rfl, En.of hU hW hP hK hD hN⟩⟩ rfl rfl hl.1 rfl (lv_room (Nat.le_of_ble_eq_true rfl)) dX12_town_71 ⟨Nat.le_of_ble_eq_true rfl, Nat.le_of_ble_eq_true rfl⟩) hS (fun q _ h => hFc q h) hFc (fun u_11 t9 H locs ht9 hvm hw hB hz1 hk1 hS => ?_)
        obtain ⟨v11, nm11⟩ := u_11
        obtain ⟨hP1, hD1⟩ := hB
        rw [ht9] at hP1
        obtain ⟨hv, xu_11V, wu_11, xu_11_M⟩ := hw
        dsimp only at hv xu_11V wu_11 xu_11_M
        have hP : va_P G vwCl (WMs cy mo h v11 nm11 (va_up (va_up (va_up (va_up (va_up f2 11 (upd (f2 11) (Int32.toNatClampNeg v_7) 0)) 12 (upd ((va_up f2 11 (upd (f2 11) (Int32.toNatClampNeg v_7) 0)) 12) (Int32.toNatClampNeg v_7) 0)) 13 (upd ((va_up (va_up f2 11 (upd (f2 11) (Int32.toNatClampNeg v_7) 0)) 12 (upd ((va_up f2 11 (upd (f2 11) (Int32.toNatClampNeg v_7) 0)) 12) (Int32.toNatClampNeg v_7) 0)) 13) (Int32.toNatClampNeg v_7) 0)) 14 (upd ((va_up (va_up (va_up f2 11 (upd (f2 11) (Int32.toNatClampNeg v_7) 0)) 12 (upd ((va_up f2 11 (upd (f2 11) (Int32.toNatClampNeg v_7) 0)) 12) (Int32.toNatClampNeg v_7) 0)) 13 (upd ((va_up (va_up f2 11 (upd (f2 11) (Int32.toNatClampNeg v_7) 0)) 12 (upd ((va_up f2 11 (upd (f2 11) (Int32.toNatClampNeg v_7) 0)) 12) (Int32.toNatClampNeg v_7) 0)) 13) (Int32.toNatClampNeg v_7) 0)) 14) (Int32.toNatClampNeg v_7) 921)) 21 (upd ((va_up (va_up (va_up (va_up f2 11 (upd (f2 11) (Int32.toNatClampNeg v_7) 0)) 12 (upd ((va_up f2 11 (upd (f2 11) (Int32.toNatClampNeg v_7) 0)) 12) (Int32.toNatClampNeg v_7) 0)) 13 (upd ((va_up (va_up f2 11 (upd (f2 11) (Int32.toNatClampNeg v_7) 0)) 12 (upd ((va_up f2 11 (upd (f2 11) (Int32.toNatClampNeg v_7) 0)) 12) (Int32.toNatClampNeg v_7) 0)) 13) (Int32.toNatClampNeg v_7) 0)) 14 (upd ((va_up (va_up (va_up f2 11 (upd (f2 11) (Int32.toNatClampNeg v_7) 0)) 12 (upd ((va_up f2 11 (upd (f2 11) (Int32.toNatClampNeg v_7) 0)) 12) (Int32.toNatClampNeg v_7) 0)) 13 (upd ((va_up (va_up f2 11 (upd (f2 11) (Int32.toNatClampNeg v_7) 0)) 12 (upd ((va_up f2 11 (upd (f2 11) (Int32.toNatClampNeg v_7) 0)) 12) (Int32.toNatClampNeg v_7) 0)) 13) (Int32.toNatClampNeg v_7) 0)) 14) (Int32.toNatClampNeg v_7) 921)) 21) (Int32.toNatClampNeg v_7) (vp_nar .boolean 0))) g2) H := hP1
        have hD : va_D A (WMs cy mo h v11 nm11 (va_up (va_up (va_up (va_up (va_up f2 11 (upd (f2 11) (Int32.toNatClampNeg v_7) 0)) 12 (upd ((va_up f2 11 (upd (f2 11) (Int32.toNatClampNeg v_7) 0)) 12) (Int32.toNatClampNeg v_7) 0)) 13 (upd ((va_up (va_up f2 11 (upd (f2 11) (Int32.toNatClampNeg v_7) 0)) 12 (upd ((va_up f2 11 (upd (f2 11) (Int32.toNatClampNeg v_7) 0)) 12) (Int32.toNatClampNeg v_7) 0)) 13) (Int32.toNatClampNeg v_7) 0)) 14 (upd ((va_up (va_up (va_up f2 11 (upd (f2 11) (Int32.toNatClampNeg v_7) 0)) 12 (upd ((va_up f2 11 (upd (f2 11) (Int32.toNatClampNeg v_7) 0)) 12) (Int32.toNatClampNeg v_7) 0)) 13 (upd ((va_up (va_up f2 11 (upd (f2 11) (Int32.toNatClampNeg v_7) 0)) 12 (upd ((va_up f2 11 (upd (f2 11) (Int32.toNatClampNeg v_7) 0)) 12) (Int32.toNatClampNeg v_7) 0)) 13) (Int32.toNatClampNeg v_7) 0)) 14) (Int32.toNatClampNeg v_7) 921)) 21 (upd ((va_up (va_up (va_up (va_up f2 11 (upd (f2 11) (Int32.toNatClampNeg v_7) 0)) 12 (upd ((va_up f2 11 (upd (f2 11) (Int32.toNatClampNeg v_7) 0)) 12) (Int32.toNatClampNeg v_7) 0)) 13 (upd ((va_up (va_up f2 11 (upd (f2 11) (Int32.toNatClampNeg v_7) 0)) 12 (upd ((va_up f2 11 (upd (f2 11) (Int32.toNatClampNeg v_7) 0)) 12) (Int32.toNatClampNeg v_7) 0)) 13) (Int32.toNatClampNeg v_7) 0)) 14 (upd ((va_up (va_up (va_up f2 11 (upd (f2 11) (Int32.toNatClampNeg v_7) 0)) 12 (upd ((va_up f2 11 (upd (f2 11) (Int32.toNatClampNeg v_7) 0)) 12) (Int32.toNatClampNeg v_7) 0)) 13 (upd ((va_up (va_up f2 11 (upd (f2 11) (Int32.toNatClampNeg v_7) 0)) 12 (upd ((va_up f2 11 (upd (f2 11) (Int32.toNatClampNeg v_7) 0)) 12) (Int32.toNatClampNeg v_7) 0)) 13) (Int32.toNatClampNeg v_7) 0)) 14) (Int32.toNatClampNeg v_7) 921)) 21) (Int32.toNatClampNeg v_7) (vp_nar .boolean 0))) g2) := hD1.weaken (fun _ _ _ h => hFc _ h)
        have hR : RI v11 (va_up (va_up (va_up (va_up (va_up f2 11 (upd (f2 11) (Int32.toNatClampNeg v_7) 0)) 12 (upd ((va_up f2 11 (upd (f2 11) (Int32.toNatClampNeg v_7) 0)) 12) (Int32.toNatClampNeg v_7) 0)) 13 (upd ((va_up (va_up f2 11 (upd (f2 11) (Int32.toNatClampNeg v_7) 0)) 12 (upd ((va_up f2 11 (upd (f2 11) (Int32.toNatClampNeg v_7) 0)) 12) (Int32.toNatClampNeg v_7) 0)) 13) (Int32.toNatClampNeg v_7) 0)) 14 (upd ((va_up (va_up (va_up f2 11 (upd (f2 11) (Int32.toNatClampNeg v_7) 0)) 12 (upd ((va_up f2 11 (upd (f2 11) (Int32.toNatClampNeg v_7) 0)) 12) (Int32.toNatClampNeg v_7) 0)) 13 (upd ((va_up (va_up f2 11 (upd (f2 11) (Int32.toNatClampNeg v_7) 0)) 12 (upd ((va_up f2 11 (upd (f2 11) (Int32.toNatClampNeg v_7) 0)) 12) (Int32.toNatClampNeg v_7) 0)) 13) (Int32.toNatClampNeg v_7) 0)) 14) (Int32.toNatClampNeg v_7) 921)) 21 (upd ((va_up (va_up (va_up (va_up f2 11 (upd (f2 11) (Int32.toNatClampNeg v_7) 0)) 12 (upd ((va_up f2 11 (upd (f2 11) (Int32.toNatClampNeg v_7) 0)) 12) (Int32.toNatClampNeg v_7) 0)) 13 (upd ((va_up (va_up f2 11 (upd (f2 11) (Int32.toNatClampNeg v_7) 0)) 12 (upd ((va_up f2 11 (upd (f2 11) (Int32.toNatClampNeg v_7) 0)) 12) (Int32.toNatClampNeg v_7) 0)) 13) (Int32.toNatClampNeg v_7) 0)) 14 (upd ((va_up (va_up (va_up f2 11 (upd (f2 11) (Int32.toNatClampNeg v_7) 0)) 12 (upd ((va_up f2 11 (upd (f2 11) (Int32.toNatClampNeg v_7) 0)) 12) (Int32.toNatClampNeg v_7) 0)) 13 (upd ((va_up (va_up f2 11 (upd (f2 11) (Int32.toNatClampNeg v_7) 0)) 12 (upd ((va_up f2 11 (upd (f2 11) (Int32.toNatClampNeg v_7) 0)) 12) (Int32.toNatClampNeg v_7) 0)) 13) (Int32.toNatClampNeg v_7) 0)) 14) (Int32.toNatClampNeg v_7) 921)) 21) (Int32.toNatClampNeg v_7) (vp_nar .boolean 0))) := RI.fv hR xu_11V (by decide)
        have hL : WL v11 (va_up (va_up (va_up (va_up (va_up f2 11 (upd (f2 11) (Int32.toNatClampNeg v_7) 0)) 12 (upd ((va_up f2 11 (upd (f2 11) (Int32.toNatClampNeg v_7) 0)) 12) (Int32.toNatClampNeg v_7) 0)) 13 (upd ((va_up (va_up f2 11 (upd (f2 11) (Int32.toNatClampNeg v_7) 0)) 12 (upd ((va_up f2 11 (upd (f2 11) (Int32.toNatClampNeg v_7) 0)) 12) (Int32.toNatClampNeg v_7) 0)) 13) (Int32.toNatClampNeg v_7) 0)) 14 (upd ((va_up (va_up (va_up f2 11 (upd (f2 11) (Int32.toNatClampNeg v_7) 0)) 12 (upd ((va_up f2 11 (upd (f2 11) (Int32.toNatClampNeg v_7) 0)) 12) (Int32.toNatClampNeg v_7) 0)) 13 (upd ((va_up (va_up f2 11 (upd (f2 11) (Int32.toNatClampNeg v_7) 0)) 12 (upd ((va_up f2 11 (upd (f2 11) (Int32.toNatClampNeg v_7) 0)) 12) (Int32.toNatClampNeg v_7) 0)) 13) (Int32.toNatClampNeg v_7) 0)) 14) (Int32.toNatClampNeg v_7) 921)) 21 (upd ((va_up (va_up (va_up (va_up f2 11 (upd (f2 11) (Int32.toNatClampNeg v_7) 0)) 12 (upd ((va_up f2 11 (upd (f2 11) (Int32.toNatClampNeg v_7) 0)) 12) (Int32.toNatClampNeg v_7) 0)) 13 (upd ((va_up (va_up f2 11 (upd (f2 11) (Int32.toNatClampNeg v_7) 0)) 12 (upd ((va_up f2 11 (upd (f2 11) (Int32.toNatClampNeg v_7) 0)) 12) (Int32.toNatClampNeg v_7) 0)) 13) (Int32.toNatClampNeg v_7) 0)) 14 (upd ((va_up (va_up (va_up f2 11 (upd (f2 11) (Int32.toNatClampNeg v_7) 0)) 12 (upd ((va_up f2 11 (upd (f2 11) (Int32.toNatClampNeg v_7) 0)) 12) (Int32.toNatClampNeg v_7) 0)) 13 (upd ((va_up (va_up f2 11 (upd (f2 11) (Int32.toNatClampNeg v_7) 0)) 12 (upd ((va_up f2 11 (upd (f2 11) (Int32.toNatClampNeg v_7) 0)) 12) (Int32.toNatClampNeg v_7) 0)) 13) (Int32.toNatClampNeg v_7) 0)) 14) (Int32.toNatClampNeg v_7) 921)) 21) (Int32.toNatClampNeg v_7) (vp_nar .boolean 0))) := WL.fv hL xu_11V (by decide) (by decide)
        have hV_0 := FV.tr hV_0 xu_11V (by decide)
        clear hFc hk1 hz1 hP1 hD1
        have wu_11 : ((v11 7).toInt ≤ (v 2).toInt ∧ (((v11 8).toInt = 0 ∧ (v11 7).toInt = (v 2).toInt) ∨ ((v11 8).toInt ≠ 0 ∧ (0 : Int32).toInt < (v11 7).toInt))) := by
          have h9 : ((v11 7).toInt ≤ (v2 3).toInt ∧ (((v11 8).toInt = 0 ∧ (v11 7).toInt = (v2 3).toInt) ∨ ((v11 8).toInt ≠ 0 ∧ (0 : Int32).toInt < (v11 7).toInt))) := wu_11
          rw [(show v2 3 = (v 2) from (hV_2 3 (by decide)))] at h9
          exact h9
        have xu_11_M : 0 ≤ mz (v 2).toInt (v11 7).toInt (v11 8).toInt ∧ mz (v 2).toInt (v11 7).toInt (v11 8).toInt ≤ mz (v 2).toInt (0 : Int32).toInt (v 8).toInt ∧ ((v 8).toInt = 0 ∨ mz (v 2).toInt (v11 7).toInt (v11 8).toInt < mz (v 2).toInt (0 : Int32).toInt (v 8).toInt) := by
          have h9 : 0 ≤ mz (v2 3).toInt (v11 7).toInt (v11 8).toInt ∧ mz (v2 3).toInt (v11 7).toInt (v11 8).toInt ≤ mz (v2 3).toInt (0 : Int32).toInt (v2 8).toInt ∧ ((v2 8).toInt = 0 ∨ mz (v2 3).toInt (v11 7).toInt (v11 8).toInt < mz (v2 3).toInt (0 : Int32).toInt (v2 8).toInt) := xu_11_M
          rw [(show v2 3 = (v 2) from (hV_2 3 (by decide))), (show v2 8 = (v 8) from (hV_2 8 (by decide)))] at h9
          exact h9
        refine W.widen (k := 0) (n := 0) (Nat.le_of_ble_eq_true rfl) (Nat.le_of_ble_eq_true rfl) ?_
        have lp_12 : ∀ (N_12 : Nat) (v12 : Nat → Int32) (nm12 : Int64) (f12 : Nat → Nat → Int32) (g12 : Nat → Nat → Int64) (H : Heap) (locs : List Loc) (ls : Array Slot), MIv T v12 → MIf f12 → RI v12 f12 → WL v12 f12 → FV [4, 5, 6, 7, 8, 9, 31, 32, 33] v11 v12 → FF [11, 12, 13, 14, 15, 16, 17, 18, 19, 20, 21, 24, 25, 26, 27] (va_up (va_up (va_up (va_up (va_up f2 11 (upd (f2 11) (Int32.toNatClampNeg v_7) 0)) 12 (upd ((va_up f2 11 (upd (f2 11) (Int32.toNatClampNeg v_7) 0)) 12) (Int32.toNatClampNeg v_7) 0)) 13 (upd ((va_up (va_up f2 11 (upd (f2 11) (Int32.toNatClampNeg v_7) 0)) 12 (upd ((va_up f2 11 (upd (f2 11) (Int32.toNatClampNeg v_7) 0)) 12) (Int32.toNatClampNeg v_7) 0)) 13) (Int32.toNatClampNeg v_7) 0)) 14 (upd ((va_up (va_up (va_up f2 11 (upd (f2 11) (Int32.toNatClampNeg v_7) 0)) 12 (upd ((va_up f2 11 (upd (f2 11) (Int32.toNatClampNeg v_7) 0)) 12) (Int32.toNatClampNeg v_7) 0)) 13 (upd ((va_up (va_up f2 11 (upd (f2 11) (Int32.toNatClampNeg v_7) 0)) 12 (upd ((va_up f2 11 (upd (f2 11) (Int32.toNatClampNeg v_7) 0)) 12) (Int32.toNatClampNeg v_7) 0)) 13) (Int32.toNatClampNeg v_7) 0)) 14) (Int32.toNatClampNeg v_7) 921)) 21 (upd ((va_up (va_up (va_up (va_up f2 11 (upd (f2 11) (Int32.toNatClampNeg v_7) 0)) 12 (upd ((va_up f2 11 (upd (f2 11) (Int32.toNatClampNeg v_7) 0)) 12) (Int32.toNatClampNeg v_7) 0)) 13 (upd ((va_up (va_up f2 11 (upd (f2 11) (Int32.toNatClampNeg v_7) 0)) 12 (upd ((va_up f2 11 (upd (f2 11) (Int32.toNatClampNeg v_7) 0)) 12) (Int32.toNatClampNeg v_7) 0)) 13) (Int32.toNatClampNeg v_7) 0)) 14 (upd ((va_up (va_up (va_up f2 11 (upd (f2 11) (Int32.toNatClampNeg v_7) 0)) 12 (upd ((va_up f2 11 (upd (f2 11) (Int32.toNatClampNeg v_7) 0)) 12) (Int32.toNatClampNeg v_7) 0)) 13 (upd ((va_up (va_up f2 11 (upd (f2 11) (Int32.toNatClampNeg v_7) 0)) 12 (upd ((va_up f2 11 (upd (f2 11) (Int32.toNatClampNeg v_7) 0)) 12) (Int32.toNatClampNeg v_7) 0)) 13) (Int32.toNatClampNeg v_7) 0)) 14) (Int32.toNatClampNeg v_7) 921)) 21) (Int32.toNatClampNeg v_7) (vp_nar .boolean 0))) f12 → ((v12 7).toInt ≤ (v 2).toInt ∧ 0 ≤ mz (v 2).toInt (v12 7).toInt (v12 8).toInt) → ((v12 4).toInt = 0 → PB v_7.toInt (v12 31).toInt ((f12 13) (Int32.toNatClampNeg v_7)).toInt (f12 12) (f12 19) (f12 20) (f12 24) (f12 25) (Int32.toNatClampNeg v_7)) → tkm (mz (v 2).toInt (v12 7).toInt (v12 8).toInt) (v12 4).toInt < N_12 → va_P G vwCl (WMs cy mo h v12 nm12 f12 g12) H → va_D A (WMs cy mo h v12 nm12 f12 g12) → va_S A s.heap H locs → lv_has ls 2 [(1, .int x1_2), (0, .ref mo)] → W p l e (headSpec (.code yX12_town cX12_town 2 (some .int) :: TBg) ({ frames := 8, cells := 0, slots := 0, locals := 512 })).room s m ([.ref mo] : List Value).toArray below meth c H locs 0 0 (MQ below (va_Qi (fun (r : Int32) (u : (Nat → Int32) × Int64 × (Nat → Nat → Int32) × (Nat → Nat → Int64)) => MIv T u.1 ∧ MIf u.2.2.1 ∧ RI u.1 u.2.2.1 ∧ WL u.1 u.2.2.1 ∧ FV [2, 3, 4, 5, 6, 7, 8, 9, 29, 30, 31, 32, 33, 34, 37, 50] v u.1 ∧ FF [1, 11, 12, 13, 14, 15, 16, 17, 18, 19, 20, 21, 24, 25, 26, 27, 35, 36, 52] f u.2.2.1 ∧ ((-1 ≤ r.toInt ∧ r.toInt ≤ 8))) (fun u t => Ex G A (WMs cy mo h u.1 u.2.1 u.2.2.1 u.2.2.2) t) A) ([.ref mo] : List Value).toArray s 0 0 A) (F0 m 74 ls []) := by
          intro N_12
          induction N_12 with
          | zero => intro v12 nm12 f12 g12 H locs ls hv hf hR hL hV_12 hF_12 qf12_0 qf12_1 hm hP hD hS hl; exact absurd hm (Nat.not_lt_zero _)
          | succ N_12 ih_12 =>
            intro v12 nm12 f12 g12 H locs ls hv hf hR hL hV_12 hF_12 qf12_0 qf12_1 hm hP hD hS hl
            have hV_0 := FV.tr hV_0 hV_12 (by decide)
            have hF_0 := FF.tr hF_0 hF_12 (by decide)
            have hW_12 := hV_12
            have hY_12 := hF_12
            refine lv_aload_n hx hb dX12_town_74 rfl (lv_at hl 1 rfl) ?_
            have hFc := fr_new hS hA
            refine va_calli (va_runV (As := []) (rest := []) ⟨hx, hb, hml, hown, ht⟩ (m_isGood l G cy _ mo h T v12 nm12 f12 g12   hv hf hR hL) (cwV 0 ht (gv k_224 k_225 k_226 k_61 k_223) rfl rfl rfl (by decide +kernel) ⟨Nat.le_of_ble_eq_true rfl, Nat.le_of_ble_eq_true rfl⟩) ⟨En.blind, va_recv hK hP (ci := 12) (q0 := 0) rfl rfl, fun U hU hW => ⟨rfl, En.of hU hW hP hK hD hN⟩⟩ rfl rfl hl.1 rfl (lv_room (Nat.le_of_ble_eq_true rfl)) dX12_town_75 ⟨Nat.le_of_ble_eq_true rfl, Nat.le_of_ble_eq_true rfl⟩) hS (fun q _ h => hFc q h) hFc (fun r_u_13 u_13 t9 H locs ht9 hvm hw hB hz1 hk1 hS => ?_)
            have hP := fr_keep hP hk1
            have wu_13 := hw
            clear hFc hk1 hz1 hB hw
            have wu_13 : (r_u_13.toInt = 0 ∨ r_u_13.toInt = 1) ∧ ((r_u_13.toInt = 1 ∧ (v12 4).toInt = 0) ∨ (r_u_13.toInt = 0 ∧ (v12 4).toInt ≠ 0)) := wu_13
            refine lv_if_eq (tgt := 95) hx hb dX12_town_78 (by decide) (fun c_14 => ?_) (fun c_14 => ?_)
            · have q_15 : r_u_13.toInt = (0 : Int32).toInt := (ow_eq _ _).mp c_14
              refine lv_aload_n hx hb dX12_town_95 rfl (lv_at hl 1 rfl) ?_
              have hFc := fr_new hS hA
              refine va_calli (va_runV (As := []) (rest := []) ⟨hx, hb, hml, hown, ht⟩ (m_isGood l G cy _ mo h T v12 nm12 f12 g12   hv hf hR hL) (cwV 0 ht (gv k_224 k_225 k_226 k_61 k_223) rfl rfl rfl (by decide +kernel) ⟨Nat.le_of_ble_eq_true rfl, Nat.le_of_ble_eq_true rfl⟩) ⟨En.blind, va_recv hK hP (ci := 12) (q0 := 0) rfl rfl, fun U hU hW => ⟨rfl, En.of hU hW hP hK hD hN⟩⟩ rfl rfl hl.1 rfl (lv_room (Nat.le_of_ble_eq_true rfl)) dX12_town_96 ⟨Nat.le_of_ble_eq_true rfl, Nat.le_of_ble_eq_true rfl⟩) hS (fun q _ h => hFc q h) hFc (fun r_u_16 u_16 t9 H locs ht9 hvm hw hB hz1 hk1 hS => ?_)
              have hP := fr_keep hP hk1
              have wu_16 := hw
              clear hFc hk1 hz1 hB hw
              have wu_16 : (r_u_16.toInt = 0 ∨ r_u_16.toInt = 1) ∧ ((r_u_16.toInt = 1 ∧ (v12 4).toInt = 0) ∨ (r_u_16.toInt = 0 ∧ (v12 4).toInt ≠ 0)) := wu_16
              refine lv_if_ne (tgt := 104) hx hb dX12_town_99 (by decide) (fun c_17 => ?_) (fun c_17 => ?_)
              · have q_18 : ¬ r_u_16.toInt = (0 : Int32).toInt := by have := (not_congr (ow_eq _ _)).mp c_17; omega
                refine lv_aload_n hx hb dX12_town_104 rfl (lv_at hl 1 rfl) ?_
                refine lv_aload_n hx hb dX12_town_105 rfl (lv_at hl 1 rfl) ?_
                refine mg_30 hx hb ht hown hK hP dX12_town_106 ?_
                refine ow_top v_7 ((hV_12 30 (by decide)).trans (xu_11V 30 (by decide))) ?_
                have q_19 : 0 ≤ v_7.toInt ∧ v_7.toInt ≤ 1 := by have h9 : v12 30 = v_7 := ((hV_12 30 (by decide)).trans (xu_11V 30 (by decide))); rw [← h9]; exact hv 30
                refine mp_29 hx hb ht hown hK hP hD hS dX12_town_109 (fun H locs hP hD hS => ?_)
                have hv := MIv.up 29 hv (show 0 ≤ v_7.toInt ∧ v_7.toInt ≤ 1 from by omega)
                have hR : RI (va_up v12 29 v_7) f12 := (show RIx (f12 12) (f12 19) (f12 20) (f12 24) (f12 25) (Int32.toNatClampNeg v_7) from by exact (qf12_1 (by omega)).1)
                have hV_0 := FV.up hV_0 29 v_7 (by decide)
                refine lv_aload_n hx hb dX12_town_112 rfl (lv_at hl 1 rfl) ?_
                refine lv_iconst (v := 0) hx hb dX12_town_113 (by decide) ?_
                refine mp_50 hx hb ht hown hK hP hD hS dX12_town_114 (fun H locs hP hD hS => ?_)
                have hv := MIv.up 50 hv (show 0 ≤ (0 : Int32).toInt ∧ (0 : Int32).toInt ≤ 30 from by omega)
                have hL : WL (va_up (va_up v12 29 v_7) 50 0) f12 := fun k hk => absurd (show (k : Int) < (0 : Int32).toInt from hk) (by omega)
                have hR : RI (va_up (va_up v12 29 v_7) 50 0) f12 := RI.upv 50 hR (by decide)
                have hV_0 := FV.up hV_0 50 (0) (by decide)
                refine lv_aload_n hx hb dX12_town_117 rfl (lv_at hl 1 rfl) ?_
                refine lv_iconst (v := 0) hx hb dX12_town_118 (by decide) ?_
                refine mp_34 hx hb ht hown hK hP hD hS dX12_town_119 (fun H locs hP hD hS => ?_)
                have hv := MIv.up 34 hv (show 0 ≤ (0 : Int32).toInt ∧ (0 : Int32).toInt ≤ 40 from by omega)
                have hL : WL (va_up (va_up (va_up v12 29 v_7) 50 0) 34 0) f12 := WL.upv 34 hL (by decide)
                have hR : RI (va_up (va_up (va_up v12 29 v_7) 50 0) 34 0) f12 := RI.upv 34 hR (by decide)
                have hV_0 := FV.up hV_0 34 (0) (by decide)
                refine lv_aload_n hx hb dX12_town_122 rfl (lv_at hl 1 rfl) ?_
                refine lv_iconst (v := 0) hx hb dX12_town_123 (by decide) ?_
                refine mp_37 (by omega) hx hb ht hown hK hP hD hS dX12_town_124 (fun H locs hP hD hS => ?_)
                have hv := MIv.up 37 hv (show 0 ≤ (0 : Int32).toInt ∧ (0 : Int32).toInt ≤ 1 from by omega)
                have hL : WL (va_up (va_up (va_up (va_up v12 29 v_7) 50 0) 34 0) 37 0) f12 := WL.upv 37 hL (by decide)
                have hR : RI (va_up (va_up (va_up (va_up v12 29 v_7) 50 0) 34 0) 37 0) f12 := RI.upv 37 hR (by decide)
                have hV_0 := FV.up hV_0 37 (0) (by decide)
                refine lv_iconst (v := 0) hx hb dX12_town_127 (by decide) ?_
                refine lv_istore_n (lv' := [(1, .int 0), (0, .ref mo)]) hx hb dX12_town_128 rfl hl (by decide) rfl (fun ls hl => ?_)
                refine W.widen (k := 0) (n := 0) (Nat.le_of_ble_eq_true rfl) (Nat.le_of_ble_eq_true rfl) ?_
                have lp_20 : ∀ (N_20 : Nat) (x1_20 : Int32) (v20 : Nat → Int32) (nm20 : Int64) (f20 : Nat → Nat → Int32) (g20 : Nat → Nat → Int64) (H : Heap) (locs : List Loc) (ls : Array Slot), MIv T v20 → MIf f20 → RI v20 f20 → WL v20 f20 → FV [] (va_up (va_up (va_up (va_up v12 29 v_7) 50 0) 34 0) 37 0) v20 → FF [35, 36] f12 f20 → (0 ≤ x1_20.toInt ∧ x1_20.toInt ≤ 8) → (8 - x1_20.toInt).toNat < N_20 → va_P G vwCl (WMs cy mo h v20 nm20 f20 g20) H → va_D A (WMs cy mo h v20 nm20 f20 g20) → va_S A s.heap H locs → lv_has ls 2 [(1, .int x1_20), (0, .ref mo)] → W p l e (headSpec (.code yX12_town cX12_town 2 (some .int) :: TBg) ({ frames := 8, cells := 0, slots := 0, locals := 512 })).room s m ([.ref mo] : List Value).toArray below meth c H locs 0 0 (MQ below (va_Qi (fun (r : Int32) (u : (Nat → Int32) × Int64 × (Nat → Nat → Int32) × (Nat → Nat → Int64)) => MIv T u.1 ∧ MIf u.2.2.1 ∧ RI u.1 u.2.2.1 ∧ WL u.1 u.2.2.1 ∧ FV [2, 3, 4, 5, 6, 7, 8, 9, 29, 30, 31, 32, 33, 34, 37, 50] v u.1 ∧ FF [1, 11, 12, 13, 14, 15, 16, 17, 18, 19, 20, 21, 24, 25, 26, 27, 35, 36, 52] f u.2.2.1 ∧ ((-1 ≤ r.toInt ∧ r.toInt ≤ 8))) (fun u t => Ex G A (WMs cy mo h u.1 u.2.1 u.2.2.1 u.2.2.2) t) A) ([.ref mo] : List Value).toArray s 0 0 A) (F0 m 129 ls []) := by
                  intro N_20
                  induction N_20 with
                  | zero => intro x1_20 v20 nm20 f20 g20 H locs ls hv hf hR hL hV_20 hF_20 qf20_0 hm hP hD hS hl; exact absurd hm (Nat.not_lt_zero _)
                  | succ N_20 ih_20 =>
                    intro x1_20 v20 nm20 f20 g20 H locs ls hv hf hR hL hV_20 hF_20 qf20_0 hm hP hD hS hl
                    have hV_0 := FV.tr hV_0 hV_20 (by decide)
                    have hF_0 := FF.tr hF_0 hF_20 (by decide)
                    have hW_20 := hV_20
                    have hY_20 := hF_20
                    refine lv_iload_n hx hb dX12_town_129 rfl (lv_at hl 0 rfl) ?_
                    refine lv_bipush (v := 8) hx hb dX12_town_130 (by decide) ?_
                    refine lv_icmp_ge (tgt := 155) hx hb dX12_town_132 (by decide) (fun c_21 => ?_) (fun c_21 => ?_)
                    · have q_22 : (8 : Int32).toInt ≤ x1_20.toInt := (ow_le _ _).mp c_21
                      refine lv_iconst (v := 0) hx hb dX12_town_155 (by decide) ?_
                      refine lv_istore_n (lv' := [(1, .int 0), (0, .ref mo)]) hx hb dX12_town_156 rfl hl (by decide) rfl (fun ls hl => ?_)
                      refine W.widen (k := 0) (n := 0) (Nat.le_of_ble_eq_true rfl) (Nat.le_of_ble_eq_true rfl) ?_
                      have lp_23 : ∀ (N_23 : Nat) (x1_23 : Int32) (v23 : Nat → Int32) (nm23 : Int64) (f23 : Nat → Nat → Int32) (g23 : Nat → Nat → Int64) (H : Heap) (locs : List Loc) (ls : Array Slot), MIv T v23 → MIf f23 → RI v23 f23 → WL v23 f23 → FV [] v20 v23 → FF [52] f20 f23 → (0 ≤ x1_23.toInt ∧ x1_23.toInt ≤ 3) → (3 - x1_23.toInt).toNat < N_23 → va_P G vwCl (WMs cy mo h v23 nm23 f23 g23) H → va_D A (WMs cy mo h v23 nm23 f23 g23) → va_S A s.heap H locs → lv_has ls 2 [(1, .int x1_23), (0, .ref mo)] → W p l e (headSpec (.code yX12_town cX12_town 2 (some .int) :: TBg) ({ frames := 8, cells := 0, slots := 0, locals := 512 })).room s m ([.ref mo] : List Value).toArray below meth c H locs 0 0 (MQ below (va_Qi (fun (r : Int32) (u : (Nat → Int32) × Int64 × (Nat → Nat → Int32) × (Nat → Nat → Int64)) => MIv T u.1 ∧ MIf u.2.2.1 ∧ RI u.1 u.2.2.1 ∧ WL u.1 u.2.2.1 ∧ FV [2, 3, 4, 5, 6, 7, 8, 9, 29, 30, 31, 32, 33, 34, 37, 50] v u.1 ∧ FF [1, 11, 12, 13, 14, 15, 16, 17, 18, 19, 20, 21, 24, 25, 26, 27, 35, 36, 52] f u.2.2.1 ∧ ((-1 ≤ r.toInt ∧ r.toInt ≤ 8))) (fun u t => Ex G A (WMs cy mo h u.1 u.2.1 u.2.2.1 u.2.2.2) t) A) ([.ref mo] : List Value).toArray s 0 0 A) (F0 m 157 ls []) := by
                        intro N_23
                        induction N_23 with
                        | zero => intro x1_23 v23 nm23 f23 g23 H locs ls hv hf hR hL hV_23 hF_23 qf23_0 hm hP hD hS hl; exact absurd hm (Nat.not_lt_zero _)
                        | succ N_23 ih_23 =>
                          intro x1_23 v23 nm23 f23 g23 H locs ls hv hf hR hL hV_23 hF_23 qf23_0 hm hP hD hS hl
                          have hV_0 := FV.tr hV_0 hV_23 (by decide)
                          have hF_0 := FF.tr hF_0 hF_23 (by decide)
                          have hW_23 := hV_23
                          have hY_23 := hF_23
                          refine lv_iload_n hx hb dX12_town_157 rfl (lv_at hl 0 rfl) ?_
                          refine lv_iconst (v := 3) hx hb dX12_town_158 (by decide) ?_
                          refine lv_icmp_ge (tgt := 175) hx hb dX12_town_159 (by decide) (fun c_24 => ?_) (fun c_24 => ?_)
                          · have q_25 : (3 : Int32).toInt ≤ x1_23.toInt := (ow_le _ _).mp c_24
                            refine lv_aload_n hx hb dX12_town_175 rfl (lv_at hl 1 rfl) ?_
                            refine mg_12 hx hb ht hown hK hP dX12_town_176 ?_
                            refine lv_aload_n hx hb dX12_town_179 rfl (lv_at hl 1 rfl) ?_
                            refine mg_29 hx hb ht hown hK hP dX12_town_180 ?_
                            refine ow_top v_7 ((hV_23 29 (by decide)).trans (hV_20 29 (by decide))) ?_
                            have q_26 : 0 ≤ v_7.toInt ∧ v_7.toInt ≤ 1 := by have h9 : v23 29 = v_7 := ((hV_23 29 (by decide)).trans (hV_20 29 (by decide))); rw [← h9]; exact hv 29
                            have q_27 : vp_in v_7 2 := vp_in_iff.mpr ⟨by omega, by omega⟩
                            refine ml_12 hx hb hK hP q_27 dX12_town_183 ?_
                            refine lv_topi (fun v_28 ev_28 => ?_)
                            have q_29 : 0 ≤ v_28.toInt ∧ v_28.toInt ≤ 8 := by rw [ev_28]; exact MIf.rd 12 hf q_27
                            have q_30 : v_28.toInt = ((f12 12) (Int32.toNatClampNeg v_7)).toInt := (congrArg Int32.toInt ev_28).trans (congrArg (fun z : Nat → Int32 => (z (Int32.toNatClampNeg v_7)).toInt) (show f23 12 = (f12 12) from ((hF_23 12 (by decide)).trans (hF_20 12 (by decide)))))
                            refine W.widen (k := 0) (n := 0) (Nat.le_of_ble_eq_true rfl) (Nat.le_of_ble_eq_true rfl) ?_
                            exact W.iret (v := v_28) hx hb hr (fun t ht9 hW => ⟨⟨v_28, (v23, nm23, f23, g23), rfl, ⟨hv, hf, hR, hL, hV_0, hF_0, (by omega)⟩, ⟨by rw [ht9]; exact hP, hD⟩⟩, hS.F ht9⟩) hS.2.2 dX12_town_184
                          · have q_31 : x1_23.toInt < (3 : Int32).toInt := by have := (not_congr (ow_le _ _)).mp c_24; omega
                            refine lv_aload_n hx hb dX12_town_162 rfl (lv_at hl 1 rfl) ?_
                            refine mg_52 hx hb ht hown hK hP dX12_town_163 ?_
                            refine lv_iload_n hx hb dX12_town_166 rfl (lv_at hl 0 rfl) ?_
                            refine lv_iconst (v := (-1)) hx hb dX12_town_167 (by decide) ?_
                            have q_32 : vp_in x1_23 3 := vp_in_iff.mpr ⟨by omega, by omega⟩
                            refine ms_52 hx hb hK hP hD hS q_32 dX12_town_168 (fun H locs hP hD hS => ?_)
                            have hf := MIf.up 52 (i := (Int32.toNatClampNeg x1_23)) hf (show (-1) ≤ ((-1) : Int32).toInt ∧ ((-1) : Int32).toInt ≤ 40 from by omega)
                            have hF_0 := FF.up hF_0 52 (upd (f23 52) (Int32.toNatClampNeg x1_23) (-1)) (by decide)
                            have hY_23 := FF.up hY_23 52 (upd (f23 52) (Int32.toNatClampNeg x1_23) (-1)) (by decide)
                            have hL : WL v23 (va_up f23 52 (upd (f23 52) (Int32.toNatClampNeg x1_23) (-1))) := WL.upf 52 hL (by decide)
                            have hR : RI v23 (va_up f23 52 (upd (f23 52) (Int32.toNatClampNeg x1_23) (-1))) := RI.up 52 hR (by decide)
                            obtain ⟨v_33, ev_33⟩ : ∃ y : Int32, y = x1_23 + 1 := ⟨_, rfl⟩
                            refine lv_iinc (v := v_33) (lv' := [(1, .int v_33), (0, .ref mo)]) hx hb dX12_town_169 hl (k := 0) rfl (by rw [ev_33]; rfl) (by decide) rfl (fun ls hl => ?_)
                            have q_34 : v_33.toInt = x1_23.toInt + 1 := by have := ow_add ev_33 (by omega) (by omega); omega
                            refine lv_goto (tgt := 157) hx hb dX12_town_172 (by decide) ?_
                            refine W.widen (k := 0) (n := 0) (Nat.le_of_ble_eq_true rfl) (Nat.le_of_ble_eq_true rfl) ?_
                            exact ih_23 v_33 v23 nm23 (va_up f23 52 (upd (f23 52) (Int32.toNatClampNeg x1_23) (-1))) g23 _ _ _ hv hf hR hL hW_23 hY_23 (by omega) (by omega) hP hD hS (lv_sub hl [0, 1] rfl)
                      exact lp_23 _ (0) v20 nm20 f20 g20 _ _ _ hv hf hR hL FV.rf FF.rf (by omega) (Nat.lt_succ_self _) hP hD hS (lv_sub hl [0, 1] rfl)
                    · have q_35 : x1_20.toInt < (8 : Int32).toInt := by have := (not_congr (ow_le _ _)).mp c_21; omega
                      refine lv_aload_n hx hb dX12_town_135 rfl (lv_at hl 1 rfl) ?_
                      refine mg_35 hx hb ht hown hK hP dX12_town_136 ?_
                      refine lv_iload_n hx hb dX12_town_139 rfl (lv_at hl 0 rfl) ?_
                      refine lv_iconst (v := 0) hx hb dX12_town_140 (by decide) ?_
                      have q_36 : vp_in x1_20 8 := vp_in_iff.mpr ⟨by omega, by omega⟩
                      refine ms_35 hx hb hK hP hD hS q_36 dX12_town_141 (fun H locs hP hD hS => ?_)
                      have hf := MIf.up 35 (i := (Int32.toNatClampNeg x1_20)) hf (ow_nz 0)
                      have hF_0 := FF.up hF_0 35 (upd (f20 35) (Int32.toNatClampNeg x1_20) (vp_nar .boolean 0)) (by decide)
                      have hY_20 := FF.up hY_20 35 (upd (f20 35) (Int32.toNatClampNeg x1_20) (vp_nar .boolean 0)) (by decide)
                      have hL : WL v20 (va_up f20 35 (upd (f20 35) (Int32.toNatClampNeg x1_20) (vp_nar .boolean 0))) := WL.upf 35 hL (by decide)
                      have hR : RI v20 (va_up f20 35 (upd (f20 35) (Int32.toNatClampNeg x1_20) (vp_nar .boolean 0))) := RI.up 35 hR (by decide)
                      refine lv_aload_n hx hb dX12_town_142 rfl (lv_at hl 1 rfl) ?_
                      refine mg_36 hx hb ht hown hK hP dX12_town_143 ?_
                      refine lv_iload_n hx hb dX12_town_146 rfl (lv_at hl 0 rfl) ?_
                      refine lv_iconst (v := 0) hx hb dX12_town_147 (by decide) ?_
                      have q_37 : vp_in x1_20 8 := vp_in_iff.mpr ⟨by omega, by omega⟩
                      refine ms_36 hx hb hK hP hD hS q_37 dX12_town_148 (fun H locs hP hD hS => ?_)
                      have hf := MIf.up 36 (i := (Int32.toNatClampNeg x1_20)) hf (ow_any (0 : Int32))
                      have hF_0 := FF.up hF_0 36 (upd ((va_up f20 35 (upd (f20 35) (Int32.toNatClampNeg x1_20) (vp_nar .boolean 0))) 36) (Int32.toNatClampNeg x1_20) 0) (by decide)
                      have hY_20 := FF.up hY_20 36 (upd ((va_up f20 35 (upd (f20 35) (Int32.toNatClampNeg x1_20) (vp_nar .boolean 0))) 36) (Int32.toNatClampNeg x1_20) 0) (by decide)
                      have hL : WL v20 (va_up (va_up f20 35 (upd (f20 35) (Int32.toNatClampNeg x1_20) (vp_nar .boolean 0))) 36 (upd ((va_up f20 35 (upd (f20 35) (Int32.toNatClampNeg x1_20) (vp_nar .boolean 0))) 36) (Int32.toNatClampNeg x1_20) 0)) := WL.upf 36 hL (by decide)
                      have hR : RI v20 (va_up (va_up f20 35 (upd (f20 35) (Int32.toNatClampNeg x1_20) (vp_nar .boolean 0))) 36 (upd ((va_up f20 35 (upd (f20 35) (Int32.toNatClampNeg x1_20) (vp_nar .boolean 0))) 36) (Int32.toNatClampNeg x1_20) 0)) := RI.up 36 hR (by decide)
                      obtain ⟨v_38, ev_38⟩ : ∃ y : Int32, y = x1_20 + 1 := ⟨_, rfl⟩
                      refine lv_iinc (v := v_38) (lv' := [(1, .int v_38), (0, .ref mo)]) hx hb dX12_town_149 hl (k := 0) rfl (by rw [ev_38]; rfl) (by decide) rfl (fun ls hl => ?_)
                      have q_39 : v_38.toInt = x1_20.toInt + 1 := by have := ow_add ev_38 (by omega) (by omega); omega
                      refine lv_goto (tgt := 129) hx hb dX12_town_152 (by decide) ?_
                      refine W.widen (k := 0) (n := 0) (Nat.le_of_ble_eq_true rfl) (Nat.le_of_ble_eq_true rfl) ?_
                      exact ih_20 v_38 v20 nm20 (va_up (va_up f20 35 (upd (f20 35) (Int32.toNatClampNeg x1_20) (vp_nar .boolean 0))) 36 (upd ((va_up f20 35 (upd (f20 35) (Int32.toNatClampNeg x1_20) (vp_nar .boolean 0))) 36) (Int32.toNatClampNeg x1_20) 0)) g20 _ _ _ hv hf hR hL hW_20 hY_20 (by omega) (by omega) hP hD hS (lv_sub hl [0, 1] rfl)
                exact lp_20 _ (0) (va_up (va_up (va_up (va_up v12 29 v_7) 50 0) 34 0) 37 0) nm12 f12 g12 _ _ _ hv hf hR hL FV.rf FF.rf (by omega) (Nat.lt_succ_self _) hP hD hS (lv_sub hl [0, 1] rfl)
              · have q_40 : r_u_16.toInt = (0 : Int32).toInt := (ow_eq _ _).mp c_17
                refine lv_iconst (v := (-1)) hx hb dX12_town_102 (by decide) ?_
                refine W.widen (k := 0) (n := 0) (Nat.le_of_ble_eq_true rfl) (Nat.le_of_ble_eq_true rfl) ?_
                exact W.iret (v := (-1)) hx hb hr (fun t ht9 hW => ⟨⟨(-1), (v12, nm12, f12, g12), rfl, ⟨hv, hf, hR, hL, hV_0, hF_0, (by omega)⟩, ⟨by rw [ht9]; exact hP, hD⟩⟩, hS.F ht9⟩) hS.2.2 dX12_town_103
            · have q_41 : ¬ r_u_13.toInt = (0 : Int32).toInt := by have := (not_congr (ow_eq _ _)).mp c_14; omega
              refine lv_aload_n hx hb dX12_town_81 rfl (lv_at hl 1 rfl) ?_
              refine mg_8 hx hb ht hown hK hP dX12_town_82 ?_
              refine lv_if_eq (tgt := 95) hx hb dX12_town_85 (by decide) (fun c_42 => ?_) (fun c_42 => ?_)
              · have q_43 : (v12 8).toInt = (0 : Int32).toInt := (ow_eq _ _).mp c_42
                refine lv_aload_n hx hb dX12_town_95 rfl (lv_at hl 1 rfl) ?_
                have hFc := fr_new hS hA
                refine va_calli (va_runV (As := []) (rest := []) ⟨hx, hb, hml, hown, ht⟩ (m_isGood l G cy _ mo h T v12 nm12 f12 g12   hv hf hR hL) (cwV 0 ht (gv k_224 k_225 k_226 k_61 k_223) rfl rfl rfl (by decide +kernel) ⟨Nat.le_of_ble_eq_true rfl, Nat.le_of_ble_eq_true rfl⟩) ⟨En.blind, va_recv hK hP (ci := 12) (q0 := 0) rfl rfl, fun U hU hW => ⟨rfl, En.of hU hW hP hK hD hN⟩⟩ rfl rfl hl.1 rfl (lv_room (Nat.le_of_ble_eq_true rfl)) dX12_town_96 ⟨Nat.le_of_ble_eq_true rfl, Nat.le_of_ble_eq_true rfl⟩) hS (fun q _ h => hFc q h) hFc (fun r_u_44 u_44 t9 H locs ht9 hvm hw hB hz1 hk1 hS => ?_)
                have hP := fr_keep hP hk1
                have wu_44 := hw
                clear hFc hk1 hz1 hB hw
                have wu_44 : (r_u_44.toInt = 0 ∨ r_u_44.toInt = 1) ∧ ((r_u_44.toInt = 1 ∧ (v12 4).toInt = 0) ∨ (r_u_44.toInt = 0 ∧ (v12 4).toInt ≠ 0)) := wu_44
                refine lv_if_ne (tgt := 104) hx hb dX12_town_99 (by decide) (fun c_45 => ?_) (fun c_45 => ?_)
                · have q_46 : ¬ r_u_44.toInt = (0 : Int32).toInt := by have := (not_congr (ow_eq _ _)).mp c_45; omega
                  refine lv_aload_n hx hb dX12_town_104 rfl (lv_at hl 1 rfl) ?_
                  refine lv_aload_n hx hb dX12_town_105 rfl (lv_at hl 1 rfl) ?_
                  refine mg_30 hx hb ht hown hK hP dX12_town_106 ?_
                  refine ow_top v_7 ((hV_12 30 (by decide)).trans (xu_11V 30 (by decide))) ?_
                  have q_47 : 0 ≤ v_7.toInt ∧ v_7.toInt ≤ 1 := by have h9 : v12 30 = v_7 := ((hV_12 30 (by decide)).trans (xu_11V 30 (by decide))); rw [← h9]; exact hv 30
                  refine mp_29 hx hb ht hown hK hP hD hS dX12_town_109 (fun H locs hP hD hS => ?_)
                  have hv := MIv.up 29 hv (show 0 ≤ v_7.toInt ∧ v_7.toInt ≤ 1 from by omega)
                  have hR : RI (va_up v12 29 v_7) f12 := (show RIx (f12 12) (f12 19) (f12 20) (f12 24) (f12 25) (Int32.toNatClampNeg v_7) from by exact (qf12_1 (by omega)).1)
                  have hV_0 := FV.up hV_0 29 v_7 (by decide)
                  refine lv_aload_n hx hb dX12_town_112 rfl (lv_at hl 1 rfl) ?_
                  refine lv_iconst (v := 0) hx hb dX12_town_113 (by decide) ?_
                  refine mp_50 hx hb ht hown hK hP hD hS dX12_town_114 (fun H locs hP hD hS => ?_)
                  have hv := MIv.up 50 hv (show 0 ≤ (0 : Int32).toInt ∧ (0 : Int32).toInt ≤ 30 from by omega)
                  have hL : WL (va_up (va_up v12 29 v_7) 50 0) f12 := fun k hk => absurd (show (k : Int) < (0 : Int32).toInt from hk) (by omega)
                  have hR : RI (va_up (va_up v12 29 v_7) 50 0) f12 := RI.upv 50 hR (by decide)
                  have hV_0 := FV.up hV_0 50 (0) (by decide)
                  refine lv_aload_n hx hb dX12_town_117 rfl (lv_at hl 1 rfl) ?_
                  refine lv_iconst (v := 0) hx hb dX12_town_118 (by decide) ?_
                  refine mp_34 hx hb ht hown hK hP hD hS dX12_town_119 (fun H locs hP hD hS => ?_)
                  have hv := MIv.up 34 hv (show 0 ≤ (0 : Int32).toInt ∧ (0 : Int32).toInt ≤ 40 from by omega)
                  have hL : WL (va_up (va_up (va_up v12 29 v_7) 50 0) 34 0) f12 := WL.upv 34 hL (by decide)
                  have hR : RI (va_up (va_up (va_up v12 29 v_7) 50 0) 34 0) f12 := RI.upv 34 hR (by decide)
                  have hV_0 := FV.up hV_0 34 (0) (by decide)
                  refine lv_aload_n hx hb dX12_town_122 rfl (lv_at hl 1 rfl) ?_
                  refine lv_iconst (v := 0) hx hb dX12_town_123 (by decide) ?_
                  refine mp_37 (by omega) hx hb ht hown hK hP hD hS dX12_town_124 (fun H locs hP hD hS => ?_)
                  have hv := MIv.up 37 hv (show 0 ≤ (0 : Int32).toInt ∧ (0 : Int32).toInt ≤ 1 from by omega)
                  have hL : WL (va_up (va_up (va_up (va_up v12 29 v_7) 50 0) 34 0) 37 0) f12 := WL.upv 37 hL (by decide)
                  have hR : RI (va_up (va_up (va_up (va_up v12 29 v_7) 50 0) 34 0) 37 0) f12 := RI.upv 37 hR (by decide)
                  have hV_0 := FV.up hV_0 37 (0) (by decide)
                  refine lv_iconst (v := 0) hx hb dX12_town_127 (by decide) ?_
                  refine lv_istore_n (lv' := [(1, .int 0), (0, .ref mo)]) hx hb dX12_town_128 rfl hl (by decide) rfl (fun ls hl => ?_)
                  refine W.widen (k := 0) (n := 0) (Nat.le_of_ble_eq_true rfl) (Nat.le_of_ble_eq_true rfl) ?_
                  have lp_48 : ∀ (N_48 : Nat) (x1_48 : Int32) (v48 : Nat → Int32) (nm48 : Int64) (f48 : Nat → Nat → Int32) (g48 : Nat → Nat → Int64) (H : Heap) (locs : List Loc) (ls : Array Slot), MIv T v48 → MIf f48 → RI v48 f48 → WL v48 f48 → FV [] (va_up (va_up (va_up (va_up v12 29 v_7) 50 0) 34 0) 37 0) v48 → FF [35, 36] f12 f48 → (0 ≤ x1_48.toInt ∧ x1_48.toInt ≤ 8) → (8 - x1_48.toInt).toNat < N_48 → va_P G vwCl (WMs cy mo h v48 nm48 f48 g48) H → va_D A (WMs cy mo h v48 nm48 f48 g48) → va_S A s.heap H locs → lv_has ls 2 [(1, .int x1_48), (0, .ref mo)] → W p l e (headSpec (.code yX12_town cX12_town 2 (some .int) :: TBg) ({ frames := 8, cells := 0, slots := 0, locals := 512 })).room s m ([.ref mo] : List Value).toArray below meth c H locs 0 0 (MQ below (va_Qi (fun (r : Int32) (u : (Nat → Int32) × Int64 × (Nat → Nat → Int32) × (Nat → Nat → Int64)) => MIv T u.1 ∧ MIf u.2.2.1 ∧ RI u.1 u.2.2.1 ∧ WL u.1 u.2.2.1 ∧ FV [2, 3, 4, 5, 6, 7, 8, 9, 29, 30, 31, 32, 33, 34, 37, 50] v u.1 ∧ FF [1, 11, 12, 13, 14, 15, 16, 17, 18, 19, 20, 21, 24, 25, 26, 27, 35, 36, 52] f u.2.2.1 ∧ ((-1 ≤ r.toInt ∧ r.toInt ≤ 8))) (fun u t => Ex G A (WMs cy mo h u.1 u.2.1 u.2.2.1 u.2.2.2) t) A) ([.ref mo] : List Value).toArray s 0 0 A) (F0 m 129 ls []) := by
                    intro N_48
                    induction N_48 with
                    | zero => intro x1_48 v48 nm48 f48 g48 H locs ls hv hf hR hL hV_48 hF_48 qf48_0 hm hP hD hS hl; exact absurd hm (Nat.not_lt_zero _)
                    | succ N_48 ih_48 =>
                      intro x1_48 v48 nm48 f48 g48 H locs ls hv hf hR hL hV_48 hF_48 qf48_0 hm hP hD hS hl
                      have hV_0 := FV.tr hV_0 hV_48 (by decide)
                      have hF_0 := FF.tr hF_0 hF_48 (by decide)
                      have hW_48 := hV_48
                      have hY_48 := hF_48
                      refine lv_iload_n hx hb dX12_town_129 rfl (lv_at hl 0 rfl) ?_
                      refine lv_bipush (v := 8) hx hb dX12_town_130 (by decide) ?_
                      refine lv_icmp_ge (tgt := 155) hx hb dX12_town_132 (by decide) (fun c_49 => ?_) (fun c_49 => ?_)
                      · have q_50 : (8 : Int32).toInt ≤ x1_48.toInt := (ow_le _ _).mp c_49
                        refine lv_iconst (v := 0) hx hb dX12_town_155 (by decide) ?_
                        refine lv_istore_n (lv' := [(1, .int 0), (0, .ref mo)]) hx hb dX12_town_156 rfl hl (by decide) rfl (fun ls hl => ?_)
                        refine W.widen (k := 0) (n := 0) (Nat.le_of_ble_eq_true rfl) (Nat.le_of_ble_eq_true rfl) ?_
                        have lp_51 : ∀ (N_51 : Nat) (x1_51 : Int32) (v51 : Nat → Int32) (nm51 : Int64) (f51 : Nat → Nat → Int32) (g51 : Nat → Nat → Int64) (H : Heap) (locs : List Loc) (ls : Array Slot), MIv T v51 → MIf f51 → RI v51 f51 → WL v51 f51 → FV [] v48 v51 → FF [52] f48 f51 → (0 ≤ x1_51.toInt ∧ x1_51.toInt ≤ 3) → (3 - x1_51.toInt).toNat < N_51 → va_P G vwCl (WMs cy mo h v51 nm51 f51 g51) H → va_D A (WMs cy mo h v51 nm51 f51 g51) → va_S A s.heap H locs → lv_has ls 2 [(1, .int x1_51), (0, .ref mo)] → W p l e (headSpec (.code yX12_town cX12_town 2 (some .int) :: TBg) ({ frames := 8, cells := 0, slots := 0, locals := 512 })).room s m ([.ref mo] : List Value).toArray below meth c H locs 0 0 (MQ below (va_Qi (fun (r : Int32) (u : (Nat → Int32) × Int64 × (Nat → Nat → Int32) × (Nat → Nat → Int64)) => MIv T u.1 ∧ MIf u.2.2.1 ∧ RI u.1 u.2.2.1 ∧ WL u.1 u.2.2.1 ∧ FV [2, 3, 4, 5, 6, 7, 8, 9, 29, 30, 31, 32, 33, 34, 37, 50] v u.1 ∧ FF [1, 11, 12, 13, 14, 15, 16, 17, 18, 19, 20, 21, 24, 25, 26, 27, 35, 36, 52] f u.2.2.1 ∧ ((-1 ≤ r.toInt ∧ r.toInt ≤ 8))) (fun u t => Ex G A (WMs cy mo h u.1 u.2.1 u.2.2.1 u.2.2.2) t) A) ([.ref mo] : List Value).toArray s 0 0 A) (F0 m 157 ls []) := by
                          intro N_51
                          induction N_51 with
                          | zero => intro x1_51 v51 nm51 f51 g51 H locs ls hv hf hR hL hV_51 hF_51 qf51_0 hm hP hD hS hl; exact absurd hm (Nat.not_lt_zero _)
                          | succ N_51 ih_51 =>
                            intro x1_51 v51 nm51 f51 g51 H locs ls hv hf hR hL hV_51 hF_51 qf51_0 hm hP hD hS hl
                            have hV_0 := FV.tr hV_0 hV_51 (by decide)
                            have hF_0 := FF.tr hF_0 hF_51 (by decide)
                            have hW_51 := hV_51
                            have hY_51 := hF_51
                            refine lv_iload_n hx hb dX12_town_157 rfl (lv_at hl 0 rfl) ?_
                            refine lv_iconst (v := 3) hx hb dX12_town_158 (by decide) ?_
                            refine lv_icmp_ge (tgt := 175) hx hb dX12_town_159 (by decide) (fun c_52 => ?_) (fun c_52 => ?_)
                            · have q_53 : (3 : Int32).toInt ≤ x1_51.toInt := (ow_le _ _).mp c_52
                              refine lv_aload_n hx hb dX12_town_175 rfl (lv_at hl 1 rfl) ?_
                              refine mg_12 hx hb ht hown hK hP dX12_town_176 ?_
                              refine lv_aload_n hx hb dX12_town_179 rfl (lv_at hl 1 rfl) ?_
                              refine mg_29 hx hb ht hown hK hP dX12_town_180 ?_
                              refine ow_top v_7 ((hV_51 29 (by decide)).trans (hV_48 29 (by decide))) ?_
                              have q_54 : 0 ≤ v_7.toInt ∧ v_7.toInt ≤ 1 := by have h9 : v51 29 = v_7 := ((hV_51 29 (by decide)).trans (hV_48 29 (by decide))); rw [← h9]; exact hv 29
                              have q_55 : vp_in v_7 2 := vp_in_iff.mpr ⟨by omega, by omega⟩
                              refine ml_12 hx hb hK hP q_55 dX12_town_183 ?_
                              refine lv_topi (fun v_56 ev_56 => ?_)
                              have q_57 : 0 ≤ v_56.toInt ∧ v_56.toInt ≤ 8 := by rw [ev_56]; exact MIf.rd 12 hf q_55
                              have q_58 : v_56.toInt = ((f12 12) (Int32.toNatClampNeg v_7)).toInt := (congrArg Int32.toInt ev_56).trans (congrArg (fun z : Nat → Int32 => (z (Int32.toNatClampNeg v_7)).toInt) (show f51 12 = (f12 12) from ((hF_51 12 (by decide)).trans (hF_48 12 (by decide)))))
                              refine W.widen (k := 0) (n := 0) (Nat.le_of_ble_eq_true rfl) (Nat.le_of_ble_eq_true rfl) ?_
                              exact W.iret (v := v_56) hx hb hr (fun t ht9 hW => ⟨⟨v_56, (v51, nm51, f51, g51), rfl, ⟨hv, hf, hR, hL, hV_0, hF_0, (by omega)⟩, ⟨by rw [ht9]; exact hP, hD⟩⟩, hS.F ht9⟩) hS.2.2 dX12_town_184
                            · have q_59 : x1_51.toInt < (3 : Int32).toInt := by have := (not_congr (ow_le _ _)).mp c_52; omega
                              refine lv_aload_n hx hb dX12_town_162 rfl (lv_at hl 1 rfl) ?_
                              refine mg_52 hx hb ht hown hK hP dX12_town_163 ?_
                              refine lv_iload_n hx hb dX12_town_166 rfl (lv_at hl 0 rfl) ?_
                              refine lv_iconst (v := (-1)) hx hb dX12_town_167 (by decide) ?_
                              have q_60 : vp_in x1_51 3 := vp_in_iff.mpr ⟨by omega, by omega⟩
                              refine ms_52 hx hb hK hP hD hS q_60 dX12_town_168 (fun H locs hP hD hS => ?_)
                              have hf := MIf.up 52 (i := (Int32.toNatClampNeg x1_51)) hf (show (-1) ≤ ((-1) : Int32).toInt ∧ ((-1) : Int32).toInt ≤ 40 from by omega)
                              have hF_0 := FF.up hF_0 52 (upd (f51 52) (Int32.toNatClampNeg x1_51) (-1)) (by decide)
                              have hY_51 := FF.up hY_51 52 (upd (f51 52) (Int32.toNatClampNeg x1_51) (-1)) (by decide)
                              have hL : WL v51 (va_up f51 52 (upd (f51 52) (Int32.toNatClampNeg x1_51) (-1))) := WL.upf 52 hL (by decide)
                              have hR : RI v51 (va_up f51 52 (upd (f51 52) (Int32.toNatClampNeg x1_51) (-1))) := RI.up 52 hR (by decide)
                              obtain ⟨v_61, ev_61⟩ : ∃ y : Int32, y = x1_51 + 1 := ⟨_, rfl⟩
                              refine lv_iinc (v := v_61) (lv' := [(1, .int v_61), (0, .ref mo)]) hx hb dX12_town_169 hl (k := 0) rfl (by rw [ev_61]; rfl) (by decide) rfl (fun ls hl => ?_)
                              have q_62 : v_61.toInt = x1_51.toInt + 1 := by have := ow_add ev_61 (by omega) (by omega); omega
                              refine lv_goto (tgt := 157) hx hb dX12_town_172 (by decide) ?_
                              refine W.widen (k := 0) (n := 0) (Nat.le_of_ble_eq_true rfl) (Nat.le_of_ble_eq_true rfl) ?_
                              exact ih_51 v_61 v51 nm51 (va_up f51 52 (upd (f51 52) (Int32.toNatClampNeg x1_51) (-1))) g51 _ _ _ hv hf hR hL hW_51 hY_51 (by omega) (by omega) hP hD hS (lv_sub hl [0, 1] rfl)
                        exact lp_51 _ (0) v48 nm48 f48 g48 _ _ _ hv hf hR hL FV.rf FF.rf (by omega) (Nat.lt_succ_self _) hP hD hS (lv_sub hl [0, 1] rfl)
                      · have q_63 : x1_48.toInt < (8 : Int32).toInt := by have := (not_congr (ow_le _ _)).mp c_49; omega
                        refine lv_aload_n hx hb dX12_town_135 rfl (lv_at hl 1 rfl) ?_
                        refine mg_35 hx hb ht hown hK hP dX12_town_136 ?_
                        refine lv_iload_n hx hb dX12_town_139 rfl (lv_at hl 0 rfl) ?_
                        refine lv_iconst (v := 0) hx hb dX12_town_140 (by decide) ?_
                        have q_64 : vp_in x1_48 8 := vp_in_iff.mpr ⟨by omega, by omega⟩
                        refine ms_35 hx hb hK hP hD hS q_64 dX12_town_141 (fun H locs hP hD hS => ?_)
                        have hf := MIf.up 35 (i := (Int32.toNatClampNeg x1_48)) hf (ow_nz 0)
                        have hF_0 := FF.up hF_0 35 (upd (f48 35) (Int32.toNatClampNeg x1_48) (vp_nar .boolean 0)) (by decide)
                        have hY_48 := FF.up hY_48 35 (upd (f48 35) (Int32.toNatClampNeg x1_48) (vp_nar .boolean 0)) (by decide)
                        have hL : WL v48 (va_up f48 35 (upd (f48 35) (Int32.toNatClampNeg x1_48) (vp_nar .boolean 0))) := WL.upf 35 hL (by decide)
                        have hR : RI v48 (va_up f48 35 (upd (f48 35) (Int32.toNatClampNeg x1_48) (vp_nar .boolean 0))) := RI.up 35 hR (by decide)
                        refine lv_aload_n hx hb dX12_town_142 rfl (lv_at hl 1 rfl) ?_
                        refine mg_36 hx hb ht hown hK hP dX12_town_143 ?_
                        refine lv_iload_n hx hb dX12_town_146 rfl (lv_at hl 0 rfl) ?_
                        refine lv_iconst (v := 0) hx hb dX12_town_147 (by decide) ?_
                        have q_65 : vp_in x1_48 8 := vp_in_iff.mpr ⟨by omega, by omega⟩
                        refine ms_36 hx hb hK hP hD hS q_65 dX12_town_148 (fun H locs hP hD hS => ?_)
                        have hf := MIf.up 36 (i := (Int32.toNatClampNeg x1_48)) hf (ow_any (0 : Int32))
                        have hF_0 := FF.up hF_0 36 (upd ((va_up f48 35 (upd (f48 35) (Int32.toNatClampNeg x1_48) (vp_nar .boolean 0))) 36) (Int32.toNatClampNeg x1_48) 0) (by decide)
                        have hY_48 := FF.up hY_48 36 (upd ((va_up f48 35 (upd (f48 35) (Int32.toNatClampNeg x1_48) (vp_nar .boolean 0))) 36) (Int32.toNatClampNeg x1_48) 0) (by decide)
                        have hL : WL v48 (va_up (va_up f48 35 (upd (f48 35) (Int32.toNatClampNeg x1_48) (vp_nar .boolean 0))) 36 (upd ((va_up f48 35 (upd (f48 35) (Int32.toNatClampNeg x1_48) (vp_nar .boolean 0))) 36) (Int32.toNatClampNeg x1_48) 0)) := WL.upf 36 hL (by decide)
                        have hR : RI v48 (va_up (va_up f48 35 (upd (f48 35) (Int32.toNatClampNeg x1_48) (vp_nar .boolean 0))) 36 (upd ((va_up f48 35 (upd (f48 35) (Int32.toNatClampNeg x1_48) (vp_nar .boolean 0))) 36) (Int32.toNatClampNeg x1_48) 0)) := RI.up 36 hR (by decide)
                        obtain ⟨v_66, ev_66⟩ : ∃ y : Int32, y = x1_48 + 1 := ⟨_, rfl⟩
                        refine lv_iinc (v := v_66) (lv' := [(1, .int v_66), (0, .ref mo)]) hx hb dX12_town_149 hl (k := 0) rfl (by rw [ev_66]; rfl) (by decide) rfl (fun ls hl => ?_)
                        have q_67 : v_66.toInt = x1_48.toInt + 1 := by have := ow_add ev_66 (by omega) (by omega); omega
                        refine lv_goto (tgt := 129) hx hb dX12_town_152 (by decide) ?_
                        refine W.widen (k := 0) (n := 0) (Nat.le_of_ble_eq_true rfl) (Nat.le_of_ble_eq_true rfl) ?_
                        exact ih_48 v_66 v48 nm48 (va_up (va_up f48 35 (upd (f48 35) (Int32.toNatClampNeg x1_48) (vp_nar .boolean 0))) 36 (upd ((va_up f48 35 (upd (f48 35) (Int32.toNatClampNeg x1_48) (vp_nar .boolean 0))) 36) (Int32.toNatClampNeg x1_48) 0)) g48 _ _ _ hv hf hR hL hW_48 hY_48 (by omega) (by omega) hP hD hS (lv_sub hl [0, 1] rfl)
                  exact lp_48 _ (0) (va_up (va_up (va_up (va_up v12 29 v_7) 50 0) 34 0) 37 0) nm12 f12 g12 _ _ _ hv hf hR hL FV.rf FF.rf (by omega) (Nat.lt_succ_self _) hP hD hS (lv_sub hl [0, 1] rfl)
                · have q_68 : r_u_44.toInt = (0 : Int32).toInt := (ow_eq _ _).mp c_45
                  refine lv_iconst (v := (-1)) hx hb dX12_town_102 (by decide) ?_
                  refine W.widen (k := 0) (n := 0) (Nat.le_of_ble_eq_true rfl) (Nat.le_of_ble_eq_true rfl) ?_
                  exact W.iret (v := (-1)) hx hb hr (fun t ht9 hW => ⟨⟨(-1), (v12, nm12, f12, g12), rfl, ⟨hv, hf, hR, hL, hV_0, hF_0, (by omega)⟩, ⟨by rw [ht9]; exact hP, hD⟩⟩, hS.F ht9⟩) hS.2.2 dX12_town_103
              · have q_69 : ¬ (v12 8).toInt = (0 : Int32).toInt := by have := (not_congr (ow_eq _ _)).mp c_42; omega
                refine lv_aload_n hx hb dX12_town_88 rfl (lv_at hl 1 rfl) ?_
                have hFc := fr_free hD hS hA
                refine va_callv (va_runV (As := []) (rest := []) ⟨hx, hb, hml, hown, ht⟩ (m_readLine l G cy _ mo h T v12 nm12 f12 g12   hv hf hR hL (show (v12 7).toInt ≤ (v12 3).toInt from by rw [(show v12 3 = (v 2) from ((hV_12 3 (by decide)).trans ((xu_11V 3 (by decide)).trans (hV_2 3 (by decide)))))]; omega) (show (v12 30).toInt + (v12 29).toInt = 1 from by rw [(show v12 30 = v_7 from ((hV_12 30 (by decide)).trans (xu_11V 30 (by decide)))), (show v12 29 = (v 29) from ((hV_12 29 (by decide)).trans ((xu_11V 29 (by decide)).trans (hV_2 29 (by decide)))))]; omega) (show (v12 4).toInt = 0 from by omega) (show (v12 8).toInt ≠ 0 from by omega) (show PB (v12 30).toInt (v12 31).toInt ((f12 13) (Int32.toNatClampNeg (v12 30))).toInt (f12 12) (f12 19) (f12 20) (f12 24) (f12 25) (Int32.toNatClampNeg (v12 30)) from by rw [(show v12 30 = v_7 from ((hV_12 30 (by decide)).trans (xu_11V 30 (by decide))))]; exact qf12_1 (by omega))) (cwV 0 ht (gv k_316 k_317 k_318 k_61 k_315) rfl rfl rfl (by decide +kernel) ⟨Nat.le_of_ble_eq_true rfl, Nat.le_of_ble_eq_true rfl⟩) ⟨En.blind, va_recv hK hP (ci := 12) (q0 := 0) rfl rfl, fun U hU hW => ⟨rfl, En.of hU hW hP hK hD hN⟩⟩ rfl rfl hl.1 rfl (lv_room (Nat.le_of_ble_eq_true rfl)) dX12_town_89 ⟨Nat.le_of_ble_eq_true rfl, Nat.le_of_ble_eq_true rfl⟩) hS (fun q _ h => hFc q h) hFc (fun u_70 t9 H locs ht9 hvm hw hB hz1 hk1 hS => ?_)
                obtain ⟨v70, nm70, f70, g70⟩ := u_70
                obtain ⟨hP1, hD1⟩ := hB
                rw [ht9] at hP1
                obtain ⟨hv, hf, hR, hL, xu_70V, xu_70F, wu_70, xu_70_M, xu_70_P⟩ := hw
                have hP : va_P G vwCl (WMs cy mo h v70 nm70 f70 g70) H := hP1
                have hD : va_D A (WMs cy mo h v70 nm70 f70 g70) := hD1.weaken (fun _ _ _ h => hFc _ h)
                dsimp only at hv hf hR hL wu_70 xu_70V xu_70F xu_70_M xu_70_P
                clear hFc hk1 hz1 hP1 hD1
                have hV_0 := FV.tr hV_0 xu_70V (by decide)
                have hF_0 := FF.tr hF_0 xu_70F (by decide)
                have hW_12 := FV.tr hW_12 xu_70V (by decide)
                have hY_12 := FF.tr hY_12 xu_70F (by decide)
                have wu_70 : ((v70 7).toInt ≤ (v 2).toInt) := by
                  have h9 : ((v70 7).toInt ≤ (v12 3).toInt) := wu_70
                  rw [(show v12 3 = (v 2) from ((hV_12 3 (by decide)).trans ((xu_11V 3 (by decide)).trans (hV_2 3 (by decide)))))] at h9
                  exact h9
                have xu_70_M : 0 ≤ mz (v 2).toInt (v70 7).toInt (v70 8).toInt ∧ mz (v 2).toInt (v70 7).toInt (v70 8).toInt ≤ mz (v 2).toInt (v12 7).toInt (v12 8).toInt ∧ ((v70 4).toInt ≠ 0 ∨ mz (v 2).toInt (v70 7).toInt (v70 8).toInt < mz (v 2).toInt (v12 7).toInt (v12 8).toInt) := by
                  have h9 : 0 ≤ mz (v12 3).toInt (v70 7).toInt (v70 8).toInt ∧ mz (v12 3).toInt (v70 7).toInt (v70 8).toInt ≤ mz (v12 3).toInt (v12 7).toInt (v12 8).toInt ∧ ((v70 4).toInt ≠ 0 ∨ mz (v12 3).toInt (v70 7).toInt (v70 8).toInt < mz (v12 3).toInt (v12 7).toInt (v12 8).toInt) := xu_70_M
                  rw [(show v12 3 = (v 2) from ((hV_12 3 (by decide)).trans ((xu_11V 3 (by decide)).trans (hV_2 3 (by decide)))))] at h9
                  exact h9
                have xu_70_P : (v70 4).toInt = 0 → PB v_7.toInt (v70 31).toInt ((f70 13) (Int32.toNatClampNeg v_7)).toInt (f70 12) (f70 19) (f70 20) (f70 24) (f70 25) (Int32.toNatClampNeg v_7) := by
                  have h9 : (v70 4).toInt = 0 → PB (v12 30).toInt (v70 31).toInt ((f70 13) (Int32.toNatClampNeg (v12 30))).toInt (f70 12) (f70 19) (f70 20) (f70 24) (f70 25) (Int32.toNatClampNeg (v12 30)) := xu_70_P
                  rw [(show v12 30 = v_7 from ((hV_12 30 (by decide)).trans (xu_11V 30 (by decide))))] at h9
                  exact h9
                refine lv_goto (tgt := 74) hx hb dX12_town_92 (by decide) ?_
                refine W.widen (k := 0) (n := 0) (Nat.le_of_ble_eq_true rfl) (Nat.le_of_ble_eq_true rfl) ?_
                exact ih_12 v70 nm70 f70 g70 _ _ _ hv hf hR hL hW_12 hY_12 (show (v70 7).toInt ≤ (v 2).toInt ∧ 0 ≤ mz (v 2).toInt (v70 7).toInt (v70 8).toInt from by omega) (show (v70 4).toInt = 0 → PB v_7.toInt (v70 31).toInt ((f70 13) (Int32.toNatClampNeg v_7)).toInt (f70 12) (f70 19) (f70 20) (f70 24) (f70 25) (Int32.toNatClampNeg v_7) from by exact xu_70_P) (show tkm (mz (v 2).toInt (v70 7).toInt (v70 8).toInt) (v70 4).toInt < N_12 from by have h9 : tkm (mz (v 2).toInt (v70 7).toInt (v70 8).toInt) (v70 4).toInt < tkm (mz (v 2).toInt (v12 7).toInt (v12 8).toInt) (v12 4).toInt := tkm_lt (by omega) (by omega); omega) hP hD hS (lv_sub hl [0, 1] rfl)
        exact lp_12 _ v11 nm11 (va_up (va_up (va_up (va_up (va_up f2 11 (upd (f2 11) (Int32.toNatClampNeg v_7) 0)) 12 (upd ((va_up f2 11 (upd (f2 11) (Int32.toNatClampNeg v_7) 0)) 12) (Int32.toNatClampNeg v_7) 0)) 13 (upd ((va_up (va_up f2 11 (upd (f2 11) (Int32.toNatClampNeg v_7) 0)) 12 (upd ((va_up f2 11 (upd (f2 11) (Int32.toNatClampNeg v_7) 0)) 12) (Int32.toNatClampNeg v_7) 0)) 13) (Int32.toNatClampNeg v_7) 0)) 14 (upd ((va_up (va_up (va_up f2 11 (upd (f2 11) (Int32.toNatClampNeg v_7) 0)) 12 (upd ((va_up f2 11 (upd (f2 11) (Int32.toNatClampNeg v_7) 0)) 12) (Int32.toNatClampNeg v_7) 0)) 13 (upd ((va_up (va_up f2 11 (upd (f2 11) (Int32.toNatClampNeg v_7) 0)) 12 (upd ((va_up f2 11 (upd (f2 11) (Int32.toNatClampNeg v_7) 0)) 12) (Int32.toNatClampNeg v_7) 0)) 13) (Int32.toNatClampNeg v_7) 0)) 14) (Int32.toNatClampNeg v_7) 921)) 21 (upd ((va_up (va_up (va_up (va_up f2 11 (upd (f2 11) (Int32.toNatClampNeg v_7) 0)) 12 (upd ((va_up f2 11 (upd (f2 11) (Int32.toNatClampNeg v_7) 0)) 12) (Int32.toNatClampNeg v_7) 0)) 13 (upd ((va_up (va_up f2 11 (upd (f2 11) (Int32.toNatClampNeg v_7) 0)) 12 (upd ((va_up f2 11 (upd (f2 11) (Int32.toNatClampNeg v_7) 0)) 12) (Int32.toNatClampNeg v_7) 0)) 13) (Int32.toNatClampNeg v_7) 0)) 14 (upd ((va_up (va_up (va_up f2 11 (upd (f2 11) (Int32.toNatClampNeg v_7) 0)) 12 (upd ((va_up f2 11 (upd (f2 11) (Int32.toNatClampNeg v_7) 0)) 12) (Int32.toNatClampNeg v_7) 0)) 13 (upd ((va_up (va_up f2 11 (upd (f2 11) (Int32.toNatClampNeg v_7) 0)) 12 (upd ((va_up f2 11 (upd (f2 11) (Int32.toNatClampNeg v_7) 0)) 12) (Int32.toNatClampNeg v_7) 0)) 13) (Int32.toNatClampNeg v_7) 0)) 14) (Int32.toNatClampNeg v_7) 921)) 21) (Int32.toNatClampNeg v_7) (vp_nar .boolean 0))) g2 _ _ _ hv hf hR hL FV.rf FF.rf (show (v11 7).toInt ≤ (v 2).toInt ∧ 0 ≤ mz (v 2).toInt (v11 7).toInt (v11 8).toInt from by omega) (show (v11 4).toInt = 0 → PB v_7.toInt (v11 31).toInt ((f2 13) (Int32.toNatClampNeg v_7)).toInt (f2 12) (f2 19) (f2 20) (f2 24) (f2 25) (Int32.toNatClampNeg v_7) from by rw [(show v11 4 = (0 : Int32) from ((xu_11V 4 (by decide)).trans (hV_2 4 (by decide)))), (show v11 31 = (600 * v_7) from (xu_11V 31 (by decide))), (show f2 13 = (upd (f 13) (Int32.toNatClampNeg v_7) 0) from (congrArg (fun z : Nat → Int32 => upd z (Int32.toNatClampNeg v_7) 0) (hF_2 13 (by decide)))), (show f2 12 = (upd (f 12) (Int32.toNatClampNeg v_7) 0) from (congrArg (fun z : Nat → Int32 => upd z (Int32.toNatClampNeg v_7) 0) (hF_2 12 (by decide)))), (show f2 19 = (f 19) from (hF_2 19 (by decide))), (show f2 20 = (f 20) from (hF_2 20 (by decide))), (show f2 24 = (f 24) from (hF_2 24 (by decide))), (show f2 25 = (f 25) from (hF_2 25 (by decide)))]; exact fun h9 => ⟨fun l hl => absurd hl (by rw [pk_us]; omega), fun l hl => absurd hl (by rw [pk_us]; omega), by omega, by rw [pk_us]; omega⟩) (Nat.lt_succ_self _) hP hD hS (lv_sub hl [0, 1] rfl)
      · have q_71 : x1_2.toInt < (v 2).toInt := by have := (not_congr (ow_le _ _)).mp c_4; omega
        refine lv_aload_n hx hb dX12_town_28 rfl (lv_at hl 1 rfl) ?_
        refine mg_1 hx hb ht hown hK hP dX12_town_29 ?_
        refine lv_iload_n hx hb dX12_town_32 rfl (lv_at hl 0 rfl) ?_
        refine lv_aload_n hx hb dX12_town_33 rfl (lv_at hl 1 rfl) ?_
        refine mg_0 hx hb ht hown hK hP dX12_town_34 ?_
        refine lv_iload_n hx hb dX12_town_37 rfl (lv_at hl 0 rfl) ?_
        have q_72 : vp_in x1_2 1720 := vp_in_iff.mpr ⟨by omega, by omega⟩
        refine ml_0 hx hb hK hP q_72 dX12_town_38 ?_
        refine lv_topi (fun v_73 ev_73 => ?_)
        have q_74 : vp_in x1_2 1700 := vp_in_iff.mpr ⟨by omega, by omega⟩
        refine ms_1 hx hb hK hP hD hS q_74 dX12_town_39 (fun H locs hP hD hS => ?_)
        have hf := MIf.up 1 (i := (Int32.toNatClampNeg x1_2)) hf (ow_any (vp_nar .byte v_73))
        have hF_0 := FF.up hF_0 1 (upd (f2 1) (Int32.toNatClampNeg x1_2) (vp_nar .byte v_73)) (by decide)
        have hY_2 := FF.up hY_2 1 (upd (f2 1) (Int32.toNatClampNeg x1_2) (vp_nar .byte v_73)) (by decide)
        have hL : WL v2 (va_up f2 1 (upd (f2 1) (Int32.toNatClampNeg x1_2) (vp_nar .byte v_73))) := WL.upf 1 hL (by decide)
        have hR : RI v2 (va_up f2 1 (upd (f2 1) (Int32.toNatClampNeg x1_2) (vp_nar .byte v_73))) := RI.up 1 hR (by decide)
        obtain ⟨v_75, ev_75⟩ : ∃ y : Int32, y = x1_2 + 1 := ⟨_, rfl⟩
        refine lv_iinc (v := v_75) (lv' := [(1, .int v_75), (0, .ref mo)]) hx hb dX12_town_40 hl (k := 0) rfl (by rw [ev_75]; rfl) (by decide) rfl (fun ls hl => ?_)
        have q_76 : v_75.toInt = x1_2.toInt + 1 := by have := ow_add ev_75 (by omega) (by omega); omega
        refine lv_goto (tgt := 20) hx hb dX12_town_43 (by decide) ?_
        refine W.widen (k := 0) (n := 0) (Nat.le_of_ble_eq_true rfl) (Nat.le_of_ble_eq_true rfl) ?_
        exact ih_2 v_75 v2 nm2 (va_up f2 1 (upd (f2 1) (Int32.toNatClampNeg x1_2) (vp_nar .byte v_73))) g2 _ _ _ hv hf hR hL hW_2 hY_2 (by omega) (by omega) hP hD hS (lv_sub hl [0, 1] rfl)
  exact lp_2 _ (0) (va_up (va_up (va_up v 4 0) 5 (-1)) 3 (v 2)) nm f g _ _ _ hv hf hR hL FV.rf FF.rf (by omega) (Nat.lt_succ_self _) hP hD hS (lv_sub hl [0, 1] rfl)
