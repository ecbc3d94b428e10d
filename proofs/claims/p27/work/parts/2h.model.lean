theorem k_191 : (Cond.constantLong RX12 156 (1701733491)) ∈ TBg := tb_mem 1218 (by decide +kernel) (by decide +kernel)
theorem k_192 : (Cond.constantLong RX12 158 (474214787188)) ∈ TBg := tb_mem 1219 (by decide +kernel) (by decide +kernel)
theorem k_193 : (Cond.constantLong RX12 160 (474316301683)) ∈ TBg := tb_mem 1220 (by decide +kernel) (by decide +kernel)
theorem k_194 : (Cond.constantLong RX12 162 (2003792494)) ∈ TBg := tb_mem 1221 (by decide +kernel) (by decide +kernel)
theorem k_195 : (Cond.constantLong RX12 164 (6385252)) ∈ TBg := tb_mem 1222 (by decide +kernel) (by decide +kernel)
theorem k_196 : (Cond.constantLong RX12 166 (28530)) ∈ TBg := tb_mem 1223 (by decide +kernel) (by decide +kernel)
theorem k_197 : (Cond.constantLong RX12 168 (7237492)) ∈ TBg := tb_mem 1224 (by decide +kernel) (by decide +kernel)
theorem k_198 : (Cond.constantLong RX12 140 (1953853029)) ∈ TBg := tb_mem 1210 (by decide +kernel) (by decide +kernel)
theorem k_199 : (Cond.constantLong RX12 142 (28518)) ∈ TBg := tb_mem 1211 (by decide +kernel) (by decide +kernel)
theorem k_200 : (Cond.constantLong RX12 144 (1819239275)) ∈ TBg := tb_mem 1212 (by decide +kernel) (by decide +kernel)
theorem k_201 : (Cond.constantLong RX12 146 (1852137842)) ∈ TBg := tb_mem 1213 (by decide +kernel) (by decide +kernel)
theorem k_202 : (Cond.constantLong RX12 148 (478627065459)) ∈ TBg := tb_mem 1214 (by decide +kernel) (by decide +kernel)
theorem k_203 : (Cond.constantLong RX12 150 (495924372852)) ∈ TBg := tb_mem 1215 (by decide +kernel) (by decide +kernel)
theorem k_204 : (Cond.constantLong RX12 152 (26990)) ∈ TBg := tb_mem 1216 (by decide +kernel) (by decide +kernel)
theorem k_205 : (Cond.constantLong RX12 154 (108187666181747)) ∈ TBg := tb_mem 1217 (by decide +kernel) (by decide +kernel)
theorem k_206 : (Cond.code yX12_sign cX12_sign 2 (some .int)) ∈ TBg := tb_mem 1203 (by decide +kernel) (by decide +kernel)
theorem k_207 : (Cond.methodLink RX12 176 yX12_sign) ∈ TBg := tb_mem 1200 (by decide +kernel) (by decide +kernel)
theorem k_208 : (Cond.instanceMethod yX12_sign) ∈ TBg := tb_mem 1202 (by decide +kernel) (by decide +kernel)
theorem k_209 : (Cond.selects RX12 yX12_sign yX12_sign) ∈ TBg := tb_mem 33 (by decide +kernel) (by decide +kernel)
theorem k_210 : (Cond.code yX12_fails cX12_fails 3 none) ∈ TBg := tb_mem 1254 (by decide +kernel) (by decide +kernel)
theorem k_211 : (Cond.methodLink RX12 204 yX12_fails) ∈ TBg := tb_mem 1251 (by decide +kernel) (by decide +kernel)
theorem k_212 : (Cond.instanceMethod yX12_fails) ∈ TBg := tb_mem 1253 (by decide +kernel) (by decide +kernel)
theorem k_213 : (Cond.selects RX12 yX12_fails yX12_fails) ∈ TBg := tb_mem 39 (by decide +kernel) (by decide +kernel)
theorem k_214 : (Cond.code yX12_isDigit cX12_isDigit 1 (some .boolean)) ∈ TBg := tb_mem 1227 (by decide +kernel) (by decide +kernel)
theorem k_215 : (Cond.methodLink RX12 195 yX12_isDigit) ∈ TBg := tb_mem 1225 (by decide +kernel) (by decide +kernel)
theorem k_216 : (Cond.static yX12_isDigit) ∈ TBg := tb_mem 1226 (by decide +kernel) (by decide +kernel)
theorem k_217 : (Cond.code yX12_isSign cX12_isSign 1 (some .boolean)) ∈ TBg := tb_mem 1230 (by decide +kernel) (by decide +kernel)
theorem k_218 : (Cond.methodLink RX12 201 yX12_isSign) ∈ TBg := tb_mem 1228 (by decide +kernel) (by decide +kernel)
theorem k_219 : (Cond.static yX12_isSign) ∈ TBg := tb_mem 1229 (by decide +kernel) (by decide +kernel)
theorem k_220 : (Cond.code yX12_isKept cX12_isKept 3 (some .boolean)) ∈ TBg := tb_mem 1209 (by decide +kernel) (by decide +kernel)
theorem k_221 : (Cond.methodLink RX12 191 yX12_isKept) ∈ TBg := tb_mem 1207 (by decide +kernel) (by decide +kernel)
theorem k_222 : (Cond.static yX12_isKept) ∈ TBg := tb_mem 1208 (by decide +kernel) (by decide +kernel)
theorem k_223 : (Cond.code yX12_isGood cX12_isGood 1 (some .boolean)) ∈ TBg := tb_mem 1234 (by decide +kernel) (by decide +kernel)
theorem k_224 : (Cond.methodLink RX12 208 yX12_isGood) ∈ TBg := tb_mem 1231 (by decide +kernel) (by decide +kernel)
theorem k_225 : (Cond.instanceMethod yX12_isGood) ∈ TBg := tb_mem 1233 (by decide +kernel) (by decide +kernel)
theorem k_226 : (Cond.selects RX12 yX12_isGood yX12_isGood) ∈ TBg := tb_mem 34 (by decide +kernel) (by decide +kernel)
theorem k_227 : (Cond.code yX12_misplaced cX12_misplaced 1 none) ∈ TBg := tb_mem 1250 (by decide +kernel) (by decide +kernel)
theorem k_228 : (Cond.methodLink RX12 215 yX12_misplaced) ∈ TBg := tb_mem 1247 (by decide +kernel) (by decide +kernel)
theorem k_229 : (Cond.instanceMethod yX12_misplaced) ∈ TBg := tb_mem 1249 (by decide +kernel) (by decide +kernel)
theorem k_230 : (Cond.selects RX12 yX12_misplaced yX12_misplaced) ∈ TBg := tb_mem 38 (by decide +kernel) (by decide +kernel)
theorem k_231 : (Cond.code yX12_goOn cX12_goOn 3 none) ∈ TBg := tb_mem 1199 (by decide +kernel) (by decide +kernel)
theorem k_232 : (Cond.methodLink RX12 212 yX12_goOn) ∈ TBg := tb_mem 1196 (by decide +kernel) (by decide +kernel)
theorem k_233 : (Cond.instanceMethod yX12_goOn) ∈ TBg := tb_mem 1198 (by decide +kernel) (by decide +kernel)
theorem k_234 : (Cond.selects RX12 yX12_goOn yX12_goOn) ∈ TBg := tb_mem 32 (by decide +kernel) (by decide +kernel)
theorem k_235 : (Cond.code yX12_here cX12_here 5 (some .int)) ∈ TBg := tb_mem 1266 (by decide +kernel) (by decide +kernel)
theorem k_236 : (Cond.methodLink RX12 265 yX12_here) ∈ TBg := tb_mem 1263 (by decide +kernel) (by decide +kernel)
theorem k_237 : (Cond.instanceMethod yX12_here) ∈ TBg := tb_mem 1265 (by decide +kernel) (by decide +kernel)
theorem k_238 : (Cond.selects RX12 yX12_here yX12_here) ∈ TBg := tb_mem 42 (by decide +kernel) (by decide +kernel)
theorem k_239 : (Cond.code yX12_isWord cX12_isWord 3 (some .boolean)) ∈ TBg := tb_mem 1246 (by decide +kernel) (by decide +kernel)
theorem k_240 : (Cond.methodLink RX12 243 yX12_isWord) ∈ TBg := tb_mem 1243 (by decide +kernel) (by decide +kernel)
theorem k_241 : (Cond.instanceMethod yX12_isWord) ∈ TBg := tb_mem 1245 (by decide +kernel) (by decide +kernel)
theorem k_242 : (Cond.selects RX12 yX12_isWord yX12_isWord) ∈ TBg := tb_mem 37 (by decide +kernel) (by decide +kernel)
theorem k_243 : (Cond.code yX12_stands cX12_stands 2 (some .boolean)) ∈ TBg := tb_mem 1298 (by decide +kernel) (by decide +kernel)
theorem k_244 : (Cond.methodLink RX12 258 yX12_stands) ∈ TBg := tb_mem 1295 (by decide +kernel) (by decide +kernel)
theorem k_245 : (Cond.instanceMethod yX12_stands) ∈ TBg := tb_mem 1297 (by decide +kernel) (by decide +kernel)
theorem k_246 : (Cond.selects RX12 yX12_stands yX12_stands) ∈ TBg := tb_mem 50 (by decide +kernel) (by decide +kernel)
theorem dX12_sign_0 : decode cX12_sign 0 = .ok (.iload_n 1, 1) := by decide +kernel
theorem dX12_sign_1 : decode cX12_sign 1 = .ok (.aload_n 0, 1) := by decide +kernel
theorem dX12_sign_2 : decode cX12_sign 2 = .ok (.getfield 134, 3) := by decide +kernel
theorem dX12_sign_5 : decode cX12_sign 5 = .ok (.if_icmp .ge 16, 3) := by decide +kernel
theorem dX12_sign_21 : decode cX12_sign 21 = .ok (.iconst 0, 1) := by decide +kernel
theorem dX12_sign_22 : decode cX12_sign 22 = .ok (.ireturn, 1) := by decide +kernel
theorem dX12_sign_8 : decode cX12_sign 8 = .ok (.aload_n 0, 1) := by decide +kernel
theorem dX12_sign_9 : decode cX12_sign 9 = .ok (.getfield 13, 3) := by decide +kernel
theorem dX12_sign_12 : decode cX12_sign 12 = .ok (.iload_n 1, 1) := by decide +kernel
theorem dX12_sign_13 : decode cX12_sign 13 = .ok (.baload, 1) := by decide +kernel
theorem dX12_sign_14 : decode cX12_sign 14 = .ok (.sipush 255, 3) := by decide +kernel
theorem dX12_sign_17 : decode cX12_sign 17 = .ok (.iand, 1) := by decide +kernel
theorem dX12_sign_18 : decode cX12_sign 18 = .ok (.goto 4, 3) := by decide +kernel
theorem dX12_fails_0 : decode cX12_fails 0 = .ok (.aload_n 0, 1) := by decide +kernel
theorem dX12_fails_1 : decode cX12_fails 1 = .ok (.getfield 137, 3) := by decide +kernel
theorem dX12_fails_4 : decode cX12_fails 4 = .ok (.ifCond .le 4, 3) := by decide +kernel
theorem dX12_fails_8 : decode cX12_fails 8 = .ok (.aload_n 0, 1) := by decide +kernel
theorem dX12_fails_9 : decode cX12_fails 9 = .ok (.iload_n 1, 1) := by decide +kernel
theorem dX12_fails_10 : decode cX12_fails 10 = .ok (.putfield 137, 3) := by decide +kernel
theorem dX12_fails_13 : decode cX12_fails 13 = .ok (.aload_n 0, 1) := by decide +kernel
theorem dX12_fails_14 : decode cX12_fails 14 = .ok (.iload_n 2, 1) := by decide +kernel
theorem dX12_fails_15 : decode cX12_fails 15 = .ok (.putfield 16, 3) := by decide +kernel
theorem dX12_fails_18 : decode cX12_fails 18 = .ok (.return_, 1) := by decide +kernel
theorem dX12_fails_7 : decode cX12_fails 7 = .ok (.return_, 1) := by decide +kernel
theorem dX12_isGood_0 : decode cX12_isGood 0 = .ok (.aload_n 0, 1) := by decide +kernel
theorem dX12_isGood_1 : decode cX12_isGood 1 = .ok (.getfield 137, 3) := by decide +kernel
theorem dX12_isGood_4 : decode cX12_isGood 4 = .ok (.ifCond .ne 7, 3) := by decide +kernel
theorem dX12_isGood_11 : decode cX12_isGood 11 = .ok (.iconst 0, 1) := by decide +kernel
theorem dX12_isGood_12 : decode cX12_isGood 12 = .ok (.ireturn, 1) := by decide +kernel
theorem dX12_isGood_7 : decode cX12_isGood 7 = .ok (.iconst 1, 1) := by decide +kernel
theorem dX12_isGood_8 : decode cX12_isGood 8 = .ok (.goto 4, 3) := by decide +kernel
theorem dX12_isKept_70 : decode cX12_isKept 70 = .ok (.iload_n 2, 1) := by decide +kernel
theorem dX12_isKept_71 : decode cX12_isKept 71 = .ok (.ifCond .ne 59, 3) := by decide +kernel
theorem dX12_isKept_130 : decode cX12_isKept 130 = .ok (.iconst 1, 1) := by decide +kernel
theorem dX12_isKept_131 : decode cX12_isKept 131 = .ok (.goto 4, 3) := by decide +kernel
theorem dX12_isKept_135 : decode cX12_isKept 135 = .ok (.ireturn, 1) := by decide +kernel
theorem dX12_isKept_74 : decode cX12_isKept 74 = .ok (.lload_n 0, 1) := by decide +kernel
theorem dX12_isKept_75 : decode cX12_isKept 75 = .ok (.ldc2_w 156, 3) := by decide +kernel
theorem dX12_isKept_78 : decode cX12_isKept 78 = .ok (.lcmp, 1) := by decide +kernel
theorem dX12_isKept_79 : decode cX12_isKept 79 = .ok (.ifCond .eq 51, 3) := by decide +kernel
theorem dX12_isKept_82 : decode cX12_isKept 82 = .ok (.lload_n 0, 1) := by decide +kernel
theorem dX12_isKept_83 : decode cX12_isKept 83 = .ok (.ldc2_w 158, 3) := by decide +kernel
theorem dX12_isKept_86 : decode cX12_isKept 86 = .ok (.lcmp, 1) := by decide +kernel
theorem dX12_isKept_87 : decode cX12_isKept 87 = .ok (.ifCond .eq 43, 3) := by decide +kernel
theorem dX12_isKept_90 : decode cX12_isKept 90 = .ok (.lload_n 0, 1) := by decide +kernel
theorem dX12_isKept_91 : decode cX12_isKept 91 = .ok (.ldc2_w 160, 3) := by decide +kernel
theorem dX12_isKept_94 : decode cX12_isKept 94 = .ok (.lcmp, 1) := by decide +kernel
theorem dX12_isKept_95 : decode cX12_isKept 95 = .ok (.ifCond .eq 35, 3) := by decide +kernel
theorem dX12_isKept_98 : decode cX12_isKept 98 = .ok (.lload_n 0, 1) := by decide +kernel
theorem dX12_isKept_99 : decode cX12_isKept 99 = .ok (.ldc2_w 162, 3) := by decide +kernel
theorem dX12_isKept_102 : decode cX12_isKept 102 = .ok (.lcmp, 1) := by decide +kernel
theorem dX12_isKept_103 : decode cX12_isKept 103 = .ok (.ifCond .eq 27, 3) := by decide +kernel
theorem dX12_isKept_106 : decode cX12_isKept 106 = .ok (.lload_n 0, 1) := by decide +kernel
theorem dX12_isKept_107 : decode cX12_isKept 107 = .ok (.ldc2_w 164, 3) := by decide +kernel
theorem dX12_isKept_110 : decode cX12_isKept 110 = .ok (.lcmp, 1) := by decide +kernel
theorem dX12_isKept_111 : decode cX12_isKept 111 = .ok (.ifCond .eq 19, 3) := by decide +kernel
theorem dX12_isKept_114 : decode cX12_isKept 114 = .ok (.lload_n 0, 1) := by decide +kernel
theorem dX12_isKept_115 : decode cX12_isKept 115 = .ok (.ldc2_w 166, 3) := by decide +kernel
theorem dX12_isKept_118 : decode cX12_isKept 118 = .ok (.lcmp, 1) := by decide +kernel
theorem dX12_isKept_119 : decode cX12_isKept 119 = .ok (.ifCond .eq 11, 3) := by decide +kernel
theorem dX12_isKept_122 : decode cX12_isKept 122 = .ok (.lload_n 0, 1) := by decide +kernel
theorem dX12_isKept_123 : decode cX12_isKept 123 = .ok (.ldc2_w 168, 3) := by decide +kernel
theorem dX12_isKept_126 : decode cX12_isKept 126 = .ok (.lcmp, 1) := by decide +kernel
theorem dX12_isKept_127 : decode cX12_isKept 127 = .ok (.ifCond .ne 7, 3) := by decide +kernel
theorem dX12_isKept_134 : decode cX12_isKept 134 = .ok (.iconst 0, 1) := by decide +kernel
theorem dX12_isKept_0 : decode cX12_isKept 0 = .ok (.lload_n 0, 1) := by decide +kernel
theorem dX12_isKept_1 : decode cX12_isKept 1 = .ok (.ldc2_w 140, 3) := by decide +kernel
theorem dX12_isKept_4 : decode cX12_isKept 4 = .ok (.lcmp, 1) := by decide +kernel
theorem dX12_isKept_5 : decode cX12_isKept 5 = .ok (.ifCond .eq 59, 3) := by decide +kernel
theorem dX12_isKept_64 : decode cX12_isKept 64 = .ok (.iconst 1, 1) := by decide +kernel
theorem dX12_isKept_65 : decode cX12_isKept 65 = .ok (.goto 4, 3) := by decide +kernel
theorem dX12_isKept_69 : decode cX12_isKept 69 = .ok (.istore_n 2, 1) := by decide +kernel
theorem dX12_isKept_8 : decode cX12_isKept 8 = .ok (.lload_n 0, 1) := by decide +kernel
theorem dX12_isKept_9 : decode cX12_isKept 9 = .ok (.ldc2_w 142, 3) := by decide +kernel
theorem dX12_isKept_12 : decode cX12_isKept 12 = .ok (.lcmp, 1) := by decide +kernel
theorem dX12_isKept_13 : decode cX12_isKept 13 = .ok (.ifCond .eq 51, 3) := by decide +kernel
theorem dX12_isKept_16 : decode cX12_isKept 16 = .ok (.lload_n 0, 1) := by decide +kernel
theorem dX12_isKept_17 : decode cX12_isKept 17 = .ok (.ldc2_w 144, 3) := by decide +kernel
theorem dX12_isKept_20 : decode cX12_isKept 20 = .ok (.lcmp, 1) := by decide +kernel
theorem dX12_isKept_21 : decode cX12_isKept 21 = .ok (.ifCond .eq 43, 3) := by decide +kernel
theorem dX12_isKept_24 : decode cX12_isKept 24 = .ok (.lload_n 0, 1) := by decide +kernel
theorem dX12_isKept_25 : decode cX12_isKept 25 = .ok (.ldc2_w 146, 3) := by decide +kernel
theorem dX12_isKept_28 : decode cX12_isKept 28 = .ok (.lcmp, 1) := by decide +kernel
theorem dX12_isKept_29 : decode cX12_isKept 29 = .ok (.ifCond .eq 35, 3) := by decide +kernel
theorem dX12_isKept_32 : decode cX12_isKept 32 = .ok (.lload_n 0, 1) := by decide +kernel
theorem dX12_isKept_33 : decode cX12_isKept 33 = .ok (.ldc2_w 148, 3) := by decide +kernel
theorem dX12_isKept_36 : decode cX12_isKept 36 = .ok (.lcmp, 1) := by decide +kernel
theorem dX12_isKept_37 : decode cX12_isKept 37 = .ok (.ifCond .eq 27, 3) := by decide +kernel
theorem dX12_isKept_40 : decode cX12_isKept 40 = .ok (.lload_n 0, 1) := by decide +kernel
theorem dX12_isKept_41 : decode cX12_isKept 41 = .ok (.ldc2_w 150, 3) := by decide +kernel
theorem dX12_isKept_44 : decode cX12_isKept 44 = .ok (.lcmp, 1) := by decide +kernel
theorem dX12_isKept_45 : decode cX12_isKept 45 = .ok (.ifCond .eq 19, 3) := by decide +kernel
theorem dX12_isKept_48 : decode cX12_isKept 48 = .ok (.lload_n 0, 1) := by decide +kernel
theorem dX12_isKept_49 : decode cX12_isKept 49 = .ok (.ldc2_w 152, 3) := by decide +kernel
theorem dX12_isKept_52 : decode cX12_isKept 52 = .ok (.lcmp, 1) := by decide +kernel
theorem dX12_isKept_53 : decode cX12_isKept 53 = .ok (.ifCond .eq 11, 3) := by decide +kernel
theorem dX12_isKept_56 : decode cX12_isKept 56 = .ok (.lload_n 0, 1) := by decide +kernel
theorem dX12_isKept_57 : decode cX12_isKept 57 = .ok (.ldc2_w 154, 3) := by decide +kernel
theorem dX12_isKept_60 : decode cX12_isKept 60 = .ok (.lcmp, 1) := by decide +kernel
theorem dX12_isKept_61 : decode cX12_isKept 61 = .ok (.ifCond .ne 7, 3) := by decide +kernel
theorem dX12_isKept_68 : decode cX12_isKept 68 = .ok (.iconst 0, 1) := by decide +kernel
theorem dX12_isWord_0 : decode cX12_isWord 0 = .ok (.aload_n 0, 1) := by decide +kernel
theorem dX12_isWord_1 : decode cX12_isWord 1 = .ok (.getfield 180, 3) := by decide +kernel
theorem dX12_isWord_4 : decode cX12_isWord 4 = .ok (.iconst 3, 1) := by decide +kernel
theorem dX12_isWord_5 : decode cX12_isWord 5 = .ok (.if_icmp .ne 16, 3) := by decide +kernel
theorem dX12_isWord_21 : decode cX12_isWord 21 = .ok (.iconst 0, 1) := by decide +kernel
theorem dX12_isWord_22 : decode cX12_isWord 22 = .ok (.ireturn, 1) := by decide +kernel
theorem dX12_isWord_8 : decode cX12_isWord 8 = .ok (.aload_n 0, 1) := by decide +kernel
theorem dX12_isWord_9 : decode cX12_isWord 9 = .ok (.getfield 187, 3) := by decide +kernel
theorem dX12_isWord_12 : decode cX12_isWord 12 = .ok (.lload_n 1, 1) := by decide +kernel
theorem dX12_isWord_13 : decode cX12_isWord 13 = .ok (.lcmp, 1) := by decide +kernel
theorem dX12_isWord_14 : decode cX12_isWord 14 = .ok (.ifCond .ne 7, 3) := by decide +kernel
theorem dX12_isWord_17 : decode cX12_isWord 17 = .ok (.iconst 1, 1) := by decide +kernel
theorem dX12_isWord_18 : decode cX12_isWord 18 = .ok (.goto 4, 3) := by decide +kernel
theorem dX12_stands_0 : decode cX12_stands 0 = .ok (.aload_n 0, 1) := by decide +kernel
theorem dX12_stands_1 : decode cX12_stands 1 = .ok (.getfield 180, 3) := by decide +kernel
theorem dX12_stands_4 : decode cX12_stands 4 = .ok (.iconst 5, 1) := by decide +kernel
theorem dX12_stands_5 : decode cX12_stands 5 = .ok (.if_icmp .ne 19, 3) := by decide +kernel
theorem dX12_stands_24 : decode cX12_stands 24 = .ok (.iconst 0, 1) := by decide +kernel
theorem dX12_stands_25 : decode cX12_stands 25 = .ok (.ireturn, 1) := by decide +kernel
theorem dX12_stands_8 : decode cX12_stands 8 = .ok (.aload_n 0, 1) := by decide +kernel
theorem dX12_stands_9 : decode cX12_stands 9 = .ok (.aload_n 0, 1) := by decide +kernel
theorem dX12_stands_10 : decode cX12_stands 10 = .ok (.getfield 173, 3) := by decide +kernel
theorem dX12_stands_13 : decode cX12_stands 13 = .ok (.invokevirtual 176, 3) := by decide +kernel
theorem dX12_stands_16 : decode cX12_stands 16 = .ok (.iload_n 1, 1) := by decide +kernel
theorem dX12_stands_17 : decode cX12_stands 17 = .ok (.if_icmp .ne 7, 3) := by decide +kernel
theorem dX12_stands_20 : decode cX12_stands 20 = .ok (.iconst 1, 1) := by decide +kernel
theorem dX12_stands_21 : decode cX12_stands 21 = .ok (.goto 4, 3) := by decide +kernel
theorem dX12_misplaced_0 : decode cX12_misplaced 0 = .ok (.aload_n 0, 1) := by decide +kernel
theorem dX12_misplaced_1 : decode cX12_misplaced 1 = .ok (.aload_n 0, 1) := by decide +kernel
theorem dX12_misplaced_2 : decode cX12_misplaced 2 = .ok (.getfield 180, 3) := by decide +kernel
theorem dX12_misplaced_5 : decode cX12_misplaced 5 = .ok (.iconst 1, 1) := by decide +kernel
theorem dX12_misplaced_6 : decode cX12_misplaced 6 = .ok (.if_icmp .ne 7, 3) := by decide +kernel
theorem dX12_misplaced_13 : decode cX12_misplaced 13 = .ok (.iconst 2, 1) := by decide +kernel
theorem dX12_misplaced_14 : decode cX12_misplaced 14 = .ok (.aload_n 0, 1) := by decide +kernel
theorem dX12_misplaced_15 : decode cX12_misplaced 15 = .ok (.getfield 173, 3) := by decide +kernel
theorem dX12_misplaced_18 : decode cX12_misplaced 18 = .ok (.invokevirtual 204, 3) := by decide +kernel
theorem dX12_misplaced_21 : decode cX12_misplaced 21 = .ok (.return_, 1) := by decide +kernel
theorem dX12_misplaced_9 : decode cX12_misplaced 9 = .ok (.iconst 1, 1) := by decide +kernel
theorem dX12_misplaced_10 : decode cX12_misplaced 10 = .ok (.goto 4, 3) := by decide +kernel
theorem dX12_goOn_58 : decode cX12_goOn 58 = .ok (.aload_n 0, 1) := by decide +kernel
theorem dX12_goOn_59 : decode cX12_goOn 59 = .ok (.aload_n 0, 1) := by decide +kernel
theorem dX12_goOn_60 : decode cX12_goOn 60 = .ok (.getfield 173, 3) := by decide +kernel
theorem dX12_goOn_63 : decode cX12_goOn 63 = .ok (.invokevirtual 176, 3) := by decide +kernel
theorem dX12_goOn_66 : decode cX12_goOn 66 = .ok (.istore_n 1, 1) := by decide +kernel
theorem dX12_goOn_67 : decode cX12_goOn 67 = .ok (.aload_n 0, 1) := by decide +kernel
theorem dX12_goOn_68 : decode cX12_goOn 68 = .ok (.aload_n 0, 1) := by decide +kernel
theorem dX12_goOn_69 : decode cX12_goOn 69 = .ok (.getfield 173, 3) := by decide +kernel
theorem dX12_goOn_72 : decode cX12_goOn 72 = .ok (.iconst 1, 1) := by decide +kernel
theorem dX12_goOn_73 : decode cX12_goOn 73 = .ok (.iadd, 1) := by decide +kernel
theorem dX12_goOn_74 : decode cX12_goOn 74 = .ok (.putfield 170, 3) := by decide +kernel
theorem dX12_goOn_77 : decode cX12_goOn 77 = .ok (.aload_n 0, 1) := by decide +kernel
theorem dX12_goOn_78 : decode cX12_goOn 78 = .ok (.getfield 173, 3) := by decide +kernel
theorem dX12_goOn_81 : decode cX12_goOn 81 = .ok (.aload_n 0, 1) := by decide +kernel
theorem dX12_goOn_82 : decode cX12_goOn 82 = .ok (.getfield 134, 3) := by decide +kernel
theorem dX12_goOn_85 : decode cX12_goOn 85 = .ok (.if_icmp .lt 27, 3) := by decide +kernel
theorem dX12_goOn_112 : decode cX12_goOn 112 = .ok (.iload_n 1, 1) := by decide +kernel
theorem dX12_goOn_113 : decode cX12_goOn 113 = .ok (.invokestatic 183, 3) := by decide +kernel
theorem dX12_goOn_116 : decode cX12_goOn 116 = .ok (.ifCond .eq 123, 3) := by decide +kernel
theorem dX12_goOn_239 : decode cX12_goOn 239 = .ok (.iload_n 1, 1) := by decide +kernel
theorem dX12_goOn_240 : decode cX12_goOn 240 = .ok (.invokestatic 195, 3) := by decide +kernel
theorem dX12_goOn_243 : decode cX12_goOn 243 = .ok (.ifCond .eq 118, 3) := by decide +kernel
theorem dX12_goOn_361 : decode cX12_goOn 361 = .ok (.aload_n 0, 1) := by decide +kernel
theorem dX12_goOn_362 : decode cX12_goOn 362 = .ok (.iload_n 1, 1) := by decide +kernel
theorem dX12_goOn_363 : decode cX12_goOn 363 = .ok (.invokestatic 201, 3) := by decide +kernel
theorem dX12_goOn_366 : decode cX12_goOn 366 = .ok (.ifCond .eq 7, 3) := by decide +kernel
theorem dX12_goOn_373 : decode cX12_goOn 373 = .ok (.iconst 1, 1) := by decide +kernel
theorem dX12_goOn_374 : decode cX12_goOn 374 = .ok (.putfield 180, 3) := by decide +kernel
theorem dX12_goOn_377 : decode cX12_goOn 377 = .ok (.return_, 1) := by decide +kernel
theorem dX12_goOn_369 : decode cX12_goOn 369 = .ok (.iconst 5, 1) := by decide +kernel
theorem dX12_goOn_370 : decode cX12_goOn 370 = .ok (.goto 4, 3) := by decide +kernel
theorem dX12_goOn_246 : decode cX12_goOn 246 = .ok (.aload_n 0, 1) := by decide +kernel
theorem dX12_goOn_247 : decode cX12_goOn 247 = .ok (.iconst 0, 1) := by decide +kernel
theorem dX12_goOn_248 : decode cX12_goOn 248 = .ok (.putfield 198, 3) := by decide +kernel
theorem dX12_goOn_251 : decode cX12_goOn 251 = .ok (.aload_n 0, 1) := by decide +kernel
theorem dX12_goOn_252 : decode cX12_goOn 252 = .ok (.aload_n 0, 1) := by decide +kernel
theorem dX12_goOn_253 : decode cX12_goOn 253 = .ok (.getfield 173, 3) := by decide +kernel
theorem dX12_goOn_256 : decode cX12_goOn 256 = .ok (.putfield 170, 3) := by decide +kernel
theorem dX12_goOn_259 : decode cX12_goOn 259 = .ok (.aload_n 0, 1) := by decide +kernel
theorem dX12_goOn_260 : decode cX12_goOn 260 = .ok (.aload_n 0, 1) := by decide +kernel
theorem dX12_goOn_261 : decode cX12_goOn 261 = .ok (.getfield 170, 3) := by decide +kernel
theorem dX12_goOn_264 : decode cX12_goOn 264 = .ok (.invokevirtual 176, 3) := by decide +kernel
theorem dX12_goOn_267 : decode cX12_goOn 267 = .ok (.invokestatic 195, 3) := by decide +kernel
theorem dX12_goOn_270 : decode cX12_goOn 270 = .ok (.ifCond .eq 52, 3) := by decide +kernel
theorem dX12_goOn_322 : decode cX12_goOn 322 = .ok (.aload_n 0, 1) := by decide +kernel
theorem dX12_goOn_323 : decode cX12_goOn 323 = .ok (.aload_n 0, 1) := by decide +kernel
theorem dX12_goOn_324 : decode cX12_goOn 324 = .ok (.getfield 170, 3) := by decide +kernel
theorem dX12_goOn_327 : decode cX12_goOn 327 = .ok (.aload_n 0, 1) := by decide +kernel
theorem dX12_goOn_328 : decode cX12_goOn 328 = .ok (.getfield 173, 3) := by decide +kernel
theorem dX12_goOn_331 : decode cX12_goOn 331 = .ok (.isub, 1) := by decide +kernel
theorem dX12_goOn_332 : decode cX12_goOn 332 = .ok (.iconst 4, 1) := by decide +kernel
theorem dX12_goOn_333 : decode cX12_goOn 333 = .ok (.if_icmp .gt 17, 3) := by decide +kernel
theorem dX12_goOn_350 : decode cX12_goOn 350 = .ok (.iconst 1, 1) := by decide +kernel
theorem dX12_goOn_351 : decode cX12_goOn 351 = .ok (.goto 4, 3) := by decide +kernel
theorem dX12_goOn_355 : decode cX12_goOn 355 = .ok (.putfield 180, 3) := by decide +kernel
theorem dX12_goOn_358 : decode cX12_goOn 358 = .ok (.goto 19, 3) := by decide +kernel
theorem dX12_goOn_336 : decode cX12_goOn 336 = .ok (.aload_n 0, 1) := by decide +kernel
theorem dX12_goOn_337 : decode cX12_goOn 337 = .ok (.aload_n 0, 1) := by decide +kernel
theorem dX12_goOn_338 : decode cX12_goOn 338 = .ok (.getfield 170, 3) := by decide +kernel
theorem dX12_goOn_341 : decode cX12_goOn 341 = .ok (.invokevirtual 176, 3) := by decide +kernel
theorem dX12_goOn_344 : decode cX12_goOn 344 = .ok (.invokestatic 183, 3) := by decide +kernel
theorem dX12_goOn_347 : decode cX12_goOn 347 = .ok (.ifCond .eq 7, 3) := by decide +kernel
theorem dX12_goOn_354 : decode cX12_goOn 354 = .ok (.iconst 4, 1) := by decide +kernel
theorem dX12_goOn_273 : decode cX12_goOn 273 = .ok (.aload_n 0, 1) := by decide +kernel
theorem dX12_goOn_274 : decode cX12_goOn 274 = .ok (.getfield 170, 3) := by decide +kernel
theorem dX12_goOn_277 : decode cX12_goOn 277 = .ok (.aload_n 0, 1) := by decide +kernel
theorem dX12_goOn_278 : decode cX12_goOn 278 = .ok (.getfield 173, 3) := by decide +kernel
theorem dX12_goOn_281 : decode cX12_goOn 281 = .ok (.isub, 1) := by decide +kernel
theorem dX12_goOn_282 : decode cX12_goOn 282 = .ok (.iconst 4, 1) := by decide +kernel
theorem dX12_goOn_283 : decode cX12_goOn 283 = .ok (.if_icmp .ge 26, 3) := by decide +kernel
theorem dX12_goOn_309 : decode cX12_goOn 309 = .ok (.aload_n 0, 1) := by decide +kernel
theorem dX12_goOn_310 : decode cX12_goOn 310 = .ok (.dup, 1) := by decide +kernel
theorem dX12_goOn_311 : decode cX12_goOn 311 = .ok (.getfield 170, 3) := by decide +kernel
theorem dX12_goOn_314 : decode cX12_goOn 314 = .ok (.iconst 1, 1) := by decide +kernel
theorem dX12_goOn_315 : decode cX12_goOn 315 = .ok (.iadd, 1) := by decide +kernel
theorem dX12_goOn_316 : decode cX12_goOn 316 = .ok (.putfield 170, 3) := by decide +kernel
theorem dX12_goOn_319 : decode cX12_goOn 319 = .ok (.goto (-60), 3) := by decide +kernel
theorem dX12_goOn_286 : decode cX12_goOn 286 = .ok (.aload_n 0, 1) := by decide +kernel
theorem dX12_goOn_287 : decode cX12_goOn 287 = .ok (.bipush 10, 2) := by decide +kernel
theorem dX12_goOn_289 : decode cX12_goOn 289 = .ok (.aload_n 0, 1) := by decide +kernel
theorem dX12_goOn_290 : decode cX12_goOn 290 = .ok (.getfield 198, 3) := by decide +kernel
theorem dX12_goOn_293 : decode cX12_goOn 293 = .ok (.imul, 1) := by decide +kernel
theorem dX12_goOn_294 : decode cX12_goOn 294 = .ok (.aload_n 0, 1) := by decide +kernel
theorem dX12_goOn_295 : decode cX12_goOn 295 = .ok (.aload_n 0, 1) := by decide +kernel
theorem dX12_goOn_296 : decode cX12_goOn 296 = .ok (.getfield 170, 3) := by decide +kernel
theorem dX12_goOn_299 : decode cX12_goOn 299 = .ok (.invokevirtual 176, 3) := by decide +kernel
theorem dX12_goOn_302 : decode cX12_goOn 302 = .ok (.iadd, 1) := by decide +kernel
theorem dX12_goOn_303 : decode cX12_goOn 303 = .ok (.bipush 48, 2) := by decide +kernel
theorem dX12_goOn_305 : decode cX12_goOn 305 = .ok (.isub, 1) := by decide +kernel
theorem dX12_goOn_306 : decode cX12_goOn 306 = .ok (.putfield 198, 3) := by decide +kernel
theorem dX12_goOn_119 : decode cX12_goOn 119 = .ok (.aload_n 0, 1) := by decide +kernel
theorem dX12_goOn_120 : decode cX12_goOn 120 = .ok (.aload_n 0, 1) := by decide +kernel
theorem dX12_goOn_121 : decode cX12_goOn 121 = .ok (.getfield 170, 3) := by decide +kernel
theorem dX12_goOn_124 : decode cX12_goOn 124 = .ok (.invokevirtual 176, 3) := by decide +kernel
theorem dX12_goOn_127 : decode cX12_goOn 127 = .ok (.invokestatic 183, 3) := by decide +kernel
theorem dX12_goOn_130 : decode cX12_goOn 130 = .ok (.ifCond .eq 16, 3) := by decide +kernel
theorem dX12_goOn_146 : decode cX12_goOn 146 = .ok (.aload_n 0, 1) := by decide +kernel
theorem dX12_goOn_147 : decode cX12_goOn 147 = .ok (.lconst 0, 1) := by decide +kernel
theorem dX12_goOn_148 : decode cX12_goOn 148 = .ok (.putfield 187, 3) := by decide +kernel
theorem dX12_goOn_151 : decode cX12_goOn 151 = .ok (.aload_n 0, 1) := by decide +kernel
theorem dX12_goOn_152 : decode cX12_goOn 152 = .ok (.getfield 173, 3) := by decide +kernel
theorem dX12_goOn_155 : decode cX12_goOn 155 = .ok (.istore_n 2, 1) := by decide +kernel
theorem dX12_goOn_156 : decode cX12_goOn 156 = .ok (.iload_n 2, 1) := by decide +kernel
theorem dX12_goOn_157 : decode cX12_goOn 157 = .ok (.aload_n 0, 1) := by decide +kernel
theorem dX12_goOn_158 : decode cX12_goOn 158 = .ok (.getfield 170, 3) := by decide +kernel
theorem dX12_goOn_161 : decode cX12_goOn 161 = .ok (.if_icmp .ge 38, 3) := by decide +kernel
theorem dX12_goOn_199 : decode cX12_goOn 199 = .ok (.aload_n 0, 1) := by decide +kernel
theorem dX12_goOn_200 : decode cX12_goOn 200 = .ok (.aload_n 0, 1) := by decide +kernel
theorem dX12_goOn_201 : decode cX12_goOn 201 = .ok (.getfield 170, 3) := by decide +kernel
theorem dX12_goOn_204 : decode cX12_goOn 204 = .ok (.aload_n 0, 1) := by decide +kernel
theorem dX12_goOn_205 : decode cX12_goOn 205 = .ok (.getfield 173, 3) := by decide +kernel
theorem dX12_goOn_208 : decode cX12_goOn 208 = .ok (.isub, 1) := by decide +kernel
theorem dX12_goOn_209 : decode cX12_goOn 209 = .ok (.bipush 8, 2) := by decide +kernel
theorem dX12_goOn_211 : decode cX12_goOn 211 = .ok (.if_icmp .le 7, 3) := by decide +kernel
theorem dX12_goOn_218 : decode cX12_goOn 218 = .ok (.aload_n 0, 1) := by decide +kernel
theorem dX12_goOn_219 : decode cX12_goOn 219 = .ok (.getfield 187, 3) := by decide +kernel
theorem dX12_goOn_222 : decode cX12_goOn 222 = .ok (.invokestatic 191, 3) := by decide +kernel
theorem dX12_goOn_225 : decode cX12_goOn 225 = .ok (.ifCond .eq 7, 3) := by decide +kernel
theorem dX12_goOn_232 : decode cX12_goOn 232 = .ok (.iconst 2, 1) := by decide +kernel
theorem dX12_goOn_233 : decode cX12_goOn 233 = .ok (.putfield 180, 3) := by decide +kernel
theorem dX12_goOn_236 : decode cX12_goOn 236 = .ok (.goto 141, 3) := by decide +kernel
theorem dX12_goOn_228 : decode cX12_goOn 228 = .ok (.iconst 3, 1) := by decide +kernel
theorem dX12_goOn_229 : decode cX12_goOn 229 = .ok (.goto 4, 3) := by decide +kernel
theorem dX12_goOn_214 : decode cX12_goOn 214 = .ok (.iconst 1, 1) := by decide +kernel
theorem dX12_goOn_215 : decode cX12_goOn 215 = .ok (.goto 18, 3) := by decide +kernel
theorem dX12_goOn_164 : decode cX12_goOn 164 = .ok (.iload_n 2, 1) := by decide +kernel
theorem dX12_goOn_165 : decode cX12_goOn 165 = .ok (.aload_n 0, 1) := by decide +kernel
theorem dX12_goOn_166 : decode cX12_goOn 166 = .ok (.getfield 173, 3) := by decide +kernel
theorem dX12_goOn_169 : decode cX12_goOn 169 = .ok (.bipush 8, 2) := by decide +kernel
theorem dX12_goOn_171 : decode cX12_goOn 171 = .ok (.iadd, 1) := by decide +kernel
theorem dX12_goOn_172 : decode cX12_goOn 172 = .ok (.if_icmp .ge 27, 3) := by decide +kernel
theorem dX12_goOn_175 : decode cX12_goOn 175 = .ok (.aload_n 0, 1) := by decide +kernel
theorem dX12_goOn_176 : decode cX12_goOn 176 = .ok (.aload_n 0, 1) := by decide +kernel
theorem dX12_goOn_177 : decode cX12_goOn 177 = .ok (.getfield 187, 3) := by decide +kernel
theorem dX12_goOn_180 : decode cX12_goOn 180 = .ok (.bipush 8, 2) := by decide +kernel
theorem dX12_goOn_182 : decode cX12_goOn 182 = .ok (.lshl, 1) := by decide +kernel
theorem dX12_goOn_183 : decode cX12_goOn 183 = .ok (.aload_n 0, 1) := by decide +kernel
theorem dX12_goOn_184 : decode cX12_goOn 184 = .ok (.iload_n 2, 1) := by decide +kernel
theorem dX12_goOn_185 : decode cX12_goOn 185 = .ok (.invokevirtual 176, 3) := by decide +kernel
theorem dX12_goOn_188 : decode cX12_goOn 188 = .ok (.i2l, 1) := by decide +kernel
theorem dX12_goOn_189 : decode cX12_goOn 189 = .ok (.lor, 1) := by decide +kernel
theorem dX12_goOn_190 : decode cX12_goOn 190 = .ok (.putfield 187, 3) := by decide +kernel
theorem dX12_goOn_193 : decode cX12_goOn 193 = .ok (.iinc 2 1, 3) := by decide +kernel
theorem dX12_goOn_196 : decode cX12_goOn 196 = .ok (.goto (-40), 3) := by decide +kernel
theorem dX12_goOn_133 : decode cX12_goOn 133 = .ok (.aload_n 0, 1) := by decide +kernel
theorem dX12_goOn_134 : decode cX12_goOn 134 = .ok (.dup, 1) := by decide +kernel
theorem dX12_goOn_135 : decode cX12_goOn 135 = .ok (.getfield 170, 3) := by decide +kernel
theorem dX12_goOn_138 : decode cX12_goOn 138 = .ok (.iconst 1, 1) := by decide +kernel
theorem dX12_goOn_139 : decode cX12_goOn 139 = .ok (.iadd, 1) := by decide +kernel
theorem dX12_goOn_140 : decode cX12_goOn 140 = .ok (.putfield 170, 3) := by decide +kernel
theorem dX12_goOn_143 : decode cX12_goOn 143 = .ok (.goto (-24), 3) := by decide +kernel
theorem dX12_goOn_88 : decode cX12_goOn 88 = .ok (.aload_n 0, 1) := by decide +kernel
theorem dX12_goOn_89 : decode cX12_goOn 89 = .ok (.iconst 0, 1) := by decide +kernel
theorem dX12_goOn_90 : decode cX12_goOn 90 = .ok (.putfield 180, 3) := by decide +kernel
theorem dX12_goOn_93 : decode cX12_goOn 93 = .ok (.aload_n 0, 1) := by decide +kernel
theorem dX12_goOn_94 : decode cX12_goOn 94 = .ok (.aload_n 0, 1) := by decide +kernel
theorem dX12_goOn_95 : decode cX12_goOn 95 = .ok (.getfield 134, 3) := by decide +kernel
theorem dX12_goOn_98 : decode cX12_goOn 98 = .ok (.putfield 173, 3) := by decide +kernel
theorem dX12_goOn_101 : decode cX12_goOn 101 = .ok (.aload_n 0, 1) := by decide +kernel
theorem dX12_goOn_102 : decode cX12_goOn 102 = .ok (.aload_n 0, 1) := by decide +kernel
theorem dX12_goOn_103 : decode cX12_goOn 103 = .ok (.getfield 134, 3) := by decide +kernel
theorem dX12_goOn_106 : decode cX12_goOn 106 = .ok (.putfield 170, 3) := by decide +kernel
theorem dX12_goOn_109 : decode cX12_goOn 109 = .ok (.goto 268, 3) := by decide +kernel
theorem dX12_goOn_0 : decode cX12_goOn 0 = .ok (.aload_n 0, 1) := by decide +kernel
theorem dX12_goOn_1 : decode cX12_goOn 1 = .ok (.aload_n 0, 1) := by decide +kernel
theorem dX12_goOn_2 : decode cX12_goOn 2 = .ok (.getfield 170, 3) := by decide +kernel
theorem dX12_goOn_5 : decode cX12_goOn 5 = .ok (.putfield 173, 3) := by decide +kernel
theorem dX12_goOn_8 : decode cX12_goOn 8 = .ok (.aload_n 0, 1) := by decide +kernel
theorem dX12_goOn_9 : decode cX12_goOn 9 = .ok (.getfield 173, 3) := by decide +kernel
theorem dX12_goOn_12 : decode cX12_goOn 12 = .ok (.aload_n 0, 1) := by decide +kernel
theorem dX12_goOn_13 : decode cX12_goOn 13 = .ok (.getfield 134, 3) := by decide +kernel
theorem dX12_goOn_16 : decode cX12_goOn 16 = .ok (.if_icmp .ge 42, 3) := by decide +kernel
theorem dX12_goOn_19 : decode cX12_goOn 19 = .ok (.aload_n 0, 1) := by decide +kernel
theorem dX12_goOn_20 : decode cX12_goOn 20 = .ok (.aload_n 0, 1) := by decide +kernel
theorem dX12_goOn_21 : decode cX12_goOn 21 = .ok (.getfield 173, 3) := by decide +kernel
theorem dX12_goOn_24 : decode cX12_goOn 24 = .ok (.invokevirtual 176, 3) := by decide +kernel
theorem dX12_goOn_27 : decode cX12_goOn 27 = .ok (.bipush 32, 2) := by decide +kernel
theorem dX12_goOn_29 : decode cX12_goOn 29 = .ok (.if_icmp .eq 16, 3) := by decide +kernel
theorem dX12_goOn_45 : decode cX12_goOn 45 = .ok (.aload_n 0, 1) := by decide +kernel
theorem dX12_goOn_46 : decode cX12_goOn 46 = .ok (.dup, 1) := by decide +kernel
theorem dX12_goOn_47 : decode cX12_goOn 47 = .ok (.getfield 173, 3) := by decide +kernel
theorem dX12_goOn_50 : decode cX12_goOn 50 = .ok (.iconst 1, 1) := by decide +kernel
theorem dX12_goOn_51 : decode cX12_goOn 51 = .ok (.iadd, 1) := by decide +kernel
theorem dX12_goOn_52 : decode cX12_goOn 52 = .ok (.putfield 173, 3) := by decide +kernel
theorem dX12_goOn_55 : decode cX12_goOn 55 = .ok (.goto (-47), 3) := by decide +kernel
theorem dX12_goOn_32 : decode cX12_goOn 32 = .ok (.aload_n 0, 1) := by decide +kernel
theorem dX12_goOn_33 : decode cX12_goOn 33 = .ok (.aload_n 0, 1) := by decide +kernel
theorem dX12_goOn_34 : decode cX12_goOn 34 = .ok (.getfield 173, 3) := by decide +kernel
theorem dX12_goOn_37 : decode cX12_goOn 37 = .ok (.invokevirtual 176, 3) := by decide +kernel
theorem dX12_goOn_40 : decode cX12_goOn 40 = .ok (.bipush 10, 2) := by decide +kernel
theorem dX12_goOn_42 : decode cX12_goOn 42 = .ok (.if_icmp .ne 16, 3) := by decide +kernel
theorem dX12_must_0 : decode cX12_must 0 = .ok (.aload_n 0, 1) := by decide +kernel
theorem dX12_must_1 : decode cX12_must 1 = .ok (.invokevirtual 208, 3) := by decide +kernel
theorem dX12_must_4 : decode cX12_must 4 = .ok (.ifCond .ne 4, 3) := by decide +kernel
theorem dX12_must_8 : decode cX12_must 8 = .ok (.iload_n 1, 1) := by decide +kernel
theorem dX12_must_9 : decode cX12_must 9 = .ok (.ifCond .eq 10, 3) := by decide +kernel
theorem dX12_must_19 : decode cX12_must 19 = .ok (.aload_n 0, 1) := by decide +kernel
theorem dX12_must_20 : decode cX12_must 20 = .ok (.invokevirtual 215, 3) := by decide +kernel
theorem dX12_must_23 : decode cX12_must 23 = .ok (.return_, 1) := by decide +kernel
theorem dX12_must_12 : decode cX12_must 12 = .ok (.aload_n 0, 1) := by decide +kernel
theorem dX12_must_13 : decode cX12_must 13 = .ok (.invokevirtual 212, 3) := by decide +kernel
theorem dX12_must_16 : decode cX12_must 16 = .ok (.goto 7, 3) := by decide +kernel
theorem dX12_must_7 : decode cX12_must 7 = .ok (.return_, 1) := by decide +kernel
theorem dX12_numeral_0 : decode cX12_numeral 0 = .ok (.aload_n 0, 1) := by decide +kernel
theorem dX12_numeral_1 : decode cX12_numeral 1 = .ok (.invokevirtual 208, 3) := by decide +kernel
theorem dX12_numeral_4 : decode cX12_numeral 4 = .ok (.ifCond .ne 5, 3) := by decide +kernel
theorem dX12_numeral_9 : decode cX12_numeral 9 = .ok (.aload_n 0, 1) := by decide +kernel
theorem dX12_numeral_10 : decode cX12_numeral 10 = .ok (.getfield 180, 3) := by decide +kernel
theorem dX12_numeral_13 : decode cX12_numeral 13 = .ok (.iconst 4, 1) := by decide +kernel
theorem dX12_numeral_14 : decode cX12_numeral 14 = .ok (.if_icmp .eq 7, 3) := by decide +kernel
theorem dX12_numeral_21 : decode cX12_numeral 21 = .ok (.aload_n 0, 1) := by decide +kernel
theorem dX12_numeral_22 : decode cX12_numeral 22 = .ok (.invokevirtual 208, 3) := by decide +kernel
theorem dX12_numeral_25 : decode cX12_numeral 25 = .ok (.ifCond .eq 28, 3) := by decide +kernel
theorem dX12_numeral_53 : decode cX12_numeral 53 = .ok (.aload_n 0, 1) := by decide +kernel
theorem dX12_numeral_54 : decode cX12_numeral 54 = .ok (.getfield 198, 3) := by decide +kernel
theorem dX12_numeral_57 : decode cX12_numeral 57 = .ok (.istore_n 3, 1) := by decide +kernel
theorem dX12_numeral_58 : decode cX12_numeral 58 = .ok (.aload_n 0, 1) := by decide +kernel
theorem dX12_numeral_59 : decode cX12_numeral 59 = .ok (.invokevirtual 208, 3) := by decide +kernel
theorem dX12_numeral_62 : decode cX12_numeral 62 = .ok (.ifCond .eq 7, 3) := by decide +kernel
theorem dX12_numeral_69 : decode cX12_numeral 69 = .ok (.aload_n 0, 1) := by decide +kernel
theorem dX12_numeral_70 : decode cX12_numeral 70 = .ok (.invokevirtual 208, 3) := by decide +kernel
theorem dX12_numeral_73 : decode cX12_numeral 73 = .ok (.ifCond .eq 7, 3) := by decide +kernel
theorem dX12_numeral_80 : decode cX12_numeral 80 = .ok (.iload_n 1, 1) := by decide +kernel
theorem dX12_numeral_81 : decode cX12_numeral 81 = .ok (.ireturn, 1) := by decide +kernel
theorem dX12_numeral_76 : decode cX12_numeral 76 = .ok (.iload_n 3, 1) := by decide +kernel
theorem dX12_numeral_77 : decode cX12_numeral 77 = .ok (.goto 4, 3) := by decide +kernel
theorem dX12_numeral_65 : decode cX12_numeral 65 = .ok (.aload_n 0, 1) := by decide +kernel
theorem dX12_numeral_66 : decode cX12_numeral 66 = .ok (.invokevirtual 212, 3) := by decide +kernel
theorem dX12_numeral_28 : decode cX12_numeral 28 = .ok (.aload_n 0, 1) := by decide +kernel
theorem dX12_numeral_29 : decode cX12_numeral 29 = .ok (.getfield 198, 3) := by decide +kernel
theorem dX12_numeral_32 : decode cX12_numeral 32 = .ok (.iload_n 1, 1) := by decide +kernel
theorem dX12_numeral_33 : decode cX12_numeral 33 = .ok (.if_icmp .lt 11, 3) := by decide +kernel
theorem dX12_numeral_44 : decode cX12_numeral 44 = .ok (.aload_n 0, 1) := by decide +kernel
theorem dX12_numeral_45 : decode cX12_numeral 45 = .ok (.iconst 4, 1) := by decide +kernel
theorem dX12_numeral_46 : decode cX12_numeral 46 = .ok (.aload_n 0, 1) := by decide +kernel
theorem dX12_numeral_47 : decode cX12_numeral 47 = .ok (.getfield 173, 3) := by decide +kernel
theorem dX12_numeral_50 : decode cX12_numeral 50 = .ok (.invokevirtual 204, 3) := by decide +kernel
theorem dX12_numeral_36 : decode cX12_numeral 36 = .ok (.aload_n 0, 1) := by decide +kernel
theorem dX12_numeral_37 : decode cX12_numeral 37 = .ok (.getfield 198, 3) := by decide +kernel
theorem dX12_numeral_40 : decode cX12_numeral 40 = .ok (.iload_n 2, 1) := by decide +kernel
theorem dX12_numeral_41 : decode cX12_numeral 41 = .ok (.if_icmp .le 12, 3) := by decide +kernel
theorem dX12_numeral_17 : decode cX12_numeral 17 = .ok (.aload_n 0, 1) := by decide +kernel
theorem dX12_numeral_18 : decode cX12_numeral 18 = .ok (.invokevirtual 215, 3) := by decide +kernel
theorem dX12_numeral_7 : decode cX12_numeral 7 = .ok (.iload_n 1, 1) := by decide +kernel
theorem dX12_numeral_8 : decode cX12_numeral 8 = .ok (.ireturn, 1) := by decide +kernel
theorem dX12_here_0 : decode cX12_here 0 = .ok (.iconst 0, 1) := by decide +kernel
theorem dX12_here_1 : decode cX12_here 1 = .ok (.istore 4, 2) := by decide +kernel
theorem dX12_here_3 : decode cX12_here 3 = .ok (.iload 4, 2) := by decide +kernel
theorem dX12_here_5 : decode cX12_here 5 = .ok (.iload_n 3, 1) := by decide +kernel
theorem dX12_here_6 : decode cX12_here 6 = .ok (.if_icmp .ge 34, 3) := by decide +kernel
theorem dX12_here_40 : decode cX12_here 40 = .ok (.iconst (-1), 1) := by decide +kernel
theorem dX12_here_41 : decode cX12_here 41 = .ok (.ireturn, 1) := by decide +kernel
theorem dX12_here_9 : decode cX12_here 9 = .ok (.aload_n 0, 1) := by decide +kernel
theorem dX12_here_10 : decode cX12_here 10 = .ok (.getfield 180, 3) := by decide +kernel
theorem dX12_here_13 : decode cX12_here 13 = .ok (.iconst 2, 1) := by decide +kernel
theorem dX12_here_14 : decode cX12_here 14 = .ok (.if_icmp .ne 20, 3) := by decide +kernel
theorem dX12_here_34 : decode cX12_here 34 = .ok (.iinc 4 1, 3) := by decide +kernel
theorem dX12_here_37 : decode cX12_here 37 = .ok (.goto (-34), 3) := by decide +kernel
theorem dX12_here_17 : decode cX12_here 17 = .ok (.aload_n 1, 1) := by decide +kernel
theorem dX12_here_18 : decode cX12_here 18 = .ok (.iload_n 2, 1) := by decide +kernel
theorem dX12_here_19 : decode cX12_here 19 = .ok (.iload 4, 2) := by decide +kernel
theorem dX12_here_21 : decode cX12_here 21 = .ok (.iadd, 1) := by decide +kernel
theorem dX12_here_22 : decode cX12_here 22 = .ok (.laload, 1) := by decide +kernel
theorem dX12_here_23 : decode cX12_here 23 = .ok (.aload_n 0, 1) := by decide +kernel
theorem dX12_here_24 : decode cX12_here 24 = .ok (.getfield 187, 3) := by decide +kernel
theorem dX12_here_27 : decode cX12_here 27 = .ok (.lcmp, 1) := by decide +kernel
theorem dX12_here_28 : decode cX12_here 28 = .ok (.ifCond .ne 6, 3) := by decide +kernel
theorem dX12_here_31 : decode cX12_here 31 = .ok (.iload 4, 2) := by decide +kernel
theorem dX12_here_33 : decode cX12_here 33 = .ok (.ireturn, 1) := by decide +kernel
theorem dX12_tuneHere_0 : decode cX12_tuneHere 0 = .ok (.aload_n 0, 1) := by decide +kernel
theorem dX12_tuneHere_1 : decode cX12_tuneHere 1 = .ok (.aload_n 0, 1) := by decide +kernel
theorem dX12_tuneHere_2 : decode cX12_tuneHere 2 = .ok (.getfield 55, 3) := by decide +kernel
theorem dX12_tuneHere_5 : decode cX12_tuneHere 5 = .ok (.bipush 14, 2) := by decide +kernel
theorem dX12_tuneHere_7 : decode cX12_tuneHere 7 = .ok (.aload_n 0, 1) := by decide +kernel
theorem dX12_tuneHere_8 : decode cX12_tuneHere 8 = .ok (.getfield 218, 3) := by decide +kernel
theorem dX12_tuneHere_11 : decode cX12_tuneHere 11 = .ok (.imul, 1) := by decide +kernel
theorem dX12_tuneHere_12 : decode cX12_tuneHere 12 = .ok (.aload_n 0, 1) := by decide +kernel
theorem dX12_tuneHere_13 : decode cX12_tuneHere 13 = .ok (.getfield 20, 3) := by decide +kernel
theorem dX12_tuneHere_16 : decode cX12_tuneHere 16 = .ok (.aload_n 0, 1) := by decide +kernel
theorem dX12_tuneHere_17 : decode cX12_tuneHere 17 = .ok (.getfield 218, 3) := by decide +kernel
theorem dX12_tuneHere_20 : decode cX12_tuneHere 20 = .ok (.iaload, 1) := by decide +kernel
theorem dX12_tuneHere_21 : decode cX12_tuneHere 21 = .ok (.invokevirtual 265, 3) := by decide +kernel
theorem dX12_tuneHere_24 : decode cX12_tuneHere 24 = .ok (.ireturn, 1) := by decide +kernel
theorem dX12_fresh_0 : decode cX12_fresh 0 = .ok (.aload_n 0, 1) := by decide +kernel
theorem dX12_fresh_1 : decode cX12_fresh 1 = .ok (.invokevirtual 208, 3) := by decide +kernel
theorem dX12_fresh_4 : decode cX12_fresh 4 = .ok (.ifCond .ne 5, 3) := by decide +kernel
theorem dX12_fresh_9 : decode cX12_fresh 9 = .ok (.aload_n 0, 1) := by decide +kernel
theorem dX12_fresh_10 : decode cX12_fresh 10 = .ok (.getfield 180, 3) := by decide +kernel
theorem dX12_fresh_13 : decode cX12_fresh 13 = .ok (.iconst 2, 1) := by decide +kernel
theorem dX12_fresh_14 : decode cX12_fresh 14 = .ok (.if_icmp .eq 10, 3) := by decide +kernel
theorem dX12_fresh_24 : decode cX12_fresh 24 = .ok (.iload_n 1, 1) := by decide +kernel
theorem dX12_fresh_25 : decode cX12_fresh 25 = .ok (.ifCond .eq 12, 3) := by decide +kernel
theorem dX12_fresh_37 : decode cX12_fresh 37 = .ok (.aload_n 0, 1) := by decide +kernel
theorem dX12_fresh_38 : decode cX12_fresh 38 = .ok (.getfield 187, 3) := by decide +kernel
theorem dX12_fresh_41 : decode cX12_fresh 41 = .ok (.lstore_n 2, 1) := by decide +kernel
theorem dX12_fresh_42 : decode cX12_fresh 42 = .ok (.aload_n 0, 1) := by decide +kernel
theorem dX12_fresh_43 : decode cX12_fresh 43 = .ok (.invokevirtual 208, 3) := by decide +kernel
theorem dX12_fresh_46 : decode cX12_fresh 46 = .ok (.ifCond .eq 7, 3) := by decide +kernel
theorem dX12_fresh_53 : decode cX12_fresh 53 = .ok (.lload_n 2, 1) := by decide +kernel
theorem dX12_fresh_54 : decode cX12_fresh 54 = .ok (.lreturn, 1) := by decide +kernel
theorem dX12_fresh_49 : decode cX12_fresh 49 = .ok (.aload_n 0, 1) := by decide +kernel
theorem dX12_fresh_50 : decode cX12_fresh 50 = .ok (.invokevirtual 212, 3) := by decide +kernel
theorem dX12_fresh_28 : decode cX12_fresh 28 = .ok (.aload_n 0, 1) := by decide +kernel
theorem dX12_fresh_29 : decode cX12_fresh 29 = .ok (.iconst 3, 1) := by decide +kernel
theorem dX12_fresh_30 : decode cX12_fresh 30 = .ok (.aload_n 0, 1) := by decide +kernel
theorem dX12_fresh_31 : decode cX12_fresh 31 = .ok (.getfield 173, 3) := by decide +kernel
theorem dX12_fresh_34 : decode cX12_fresh 34 = .ok (.invokevirtual 204, 3) := by decide +kernel
theorem dX12_fresh_17 : decode cX12_fresh 17 = .ok (.aload_n 0, 1) := by decide +kernel
theorem dX12_fresh_18 : decode cX12_fresh 18 = .ok (.invokevirtual 215, 3) := by decide +kernel
theorem dX12_fresh_21 : decode cX12_fresh 21 = .ok (.goto 16, 3) := by decide +kernel
theorem dX12_fresh_7 : decode cX12_fresh 7 = .ok (.lconst 0, 1) := by decide +kernel
theorem dX12_fresh_8 : decode cX12_fresh 8 = .ok (.lreturn, 1) := by decide +kernel
theorem dX12_wordHere_0 : decode cX12_wordHere 0 = .ok (.aload_n 0, 1) := by decide +kernel
theorem dX12_wordHere_1 : decode cX12_wordHere 1 = .ok (.ldc2_w 152, 3) := by decide +kernel
theorem dX12_wordHere_4 : decode cX12_wordHere 4 = .ok (.invokevirtual 243, 3) := by decide +kernel
theorem dX12_wordHere_7 : decode cX12_wordHere 7 = .ok (.ifCond .eq 6, 3) := by decide +kernel
theorem dX12_wordHere_13 : decode cX12_wordHere 13 = .ok (.aload_n 0, 1) := by decide +kernel
theorem dX12_wordHere_14 : decode cX12_wordHere 14 = .ok (.ldc2_w 154, 3) := by decide +kernel
theorem dX12_wordHere_17 : decode cX12_wordHere 17 = .ok (.invokevirtual 243, 3) := by decide +kernel
theorem dX12_wordHere_20 : decode cX12_wordHere 20 = .ok (.ifCond .eq 6, 3) := by decide +kernel
theorem dX12_wordHere_26 : decode cX12_wordHere 26 = .ok (.aload_n 0, 1) := by decide +kernel
theorem dX12_wordHere_27 : decode cX12_wordHere 27 = .ok (.ldc2_w 156, 3) := by decide +kernel
theorem dX12_wordHere_30 : decode cX12_wordHere 30 = .ok (.invokevirtual 243, 3) := by decide +kernel
theorem dX12_wordHere_33 : decode cX12_wordHere 33 = .ok (.ifCond .eq 6, 3) := by decide +kernel
theorem dX12_wordHere_39 : decode cX12_wordHere 39 = .ok (.aload_n 0, 1) := by decide +kernel
theorem dX12_wordHere_40 : decode cX12_wordHere 40 = .ok (.ldc2_w 158, 3) := by decide +kernel
theorem dX12_wordHere_43 : decode cX12_wordHere 43 = .ok (.invokevirtual 243, 3) := by decide +kernel
theorem dX12_wordHere_46 : decode cX12_wordHere 46 = .ok (.ifCond .eq 6, 3) := by decide +kernel
theorem dX12_wordHere_52 : decode cX12_wordHere 52 = .ok (.aload_n 0, 1) := by decide +kernel
theorem dX12_wordHere_53 : decode cX12_wordHere 53 = .ok (.ldc2_w 160, 3) := by decide +kernel
theorem dX12_wordHere_56 : decode cX12_wordHere 56 = .ok (.invokevirtual 243, 3) := by decide +kernel
theorem dX12_wordHere_59 : decode cX12_wordHere 59 = .ok (.ifCond .eq 6, 3) := by decide +kernel
theorem dX12_wordHere_65 : decode cX12_wordHere 65 = .ok (.aload_n 0, 1) := by decide +kernel
theorem dX12_wordHere_66 : decode cX12_wordHere 66 = .ok (.ldc2_w 162, 3) := by decide +kernel
theorem dX12_wordHere_69 : decode cX12_wordHere 69 = .ok (.invokevirtual 243, 3) := by decide +kernel
theorem dX12_wordHere_72 : decode cX12_wordHere 72 = .ok (.ifCond .eq 8, 3) := by decide +kernel
theorem dX12_wordHere_80 : decode cX12_wordHere 80 = .ok (.iconst 0, 1) := by decide +kernel
theorem dX12_wordHere_81 : decode cX12_wordHere 81 = .ok (.ireturn, 1) := by decide +kernel
theorem dX12_wordHere_75 : decode cX12_wordHere 75 = .ok (.bipush 119, 2) := by decide +kernel
theorem dX12_wordHere_77 : decode cX12_wordHere 77 = .ok (.goto 4, 3) := by decide +kernel
theorem dX12_wordHere_62 : decode cX12_wordHere 62 = .ok (.bipush 109, 2) := by decide +kernel
theorem dX12_wordHere_64 : decode cX12_wordHere 64 = .ok (.ireturn, 1) := by decide +kernel
theorem dX12_wordHere_49 : decode cX12_wordHere 49 = .ok (.bipush 110, 2) := by decide +kernel
theorem dX12_wordHere_51 : decode cX12_wordHere 51 = .ok (.ireturn, 1) := by decide +kernel
theorem dX12_wordHere_36 : decode cX12_wordHere 36 = .ok (.bipush 101, 2) := by decide +kernel
theorem dX12_wordHere_38 : decode cX12_wordHere 38 = .ok (.ireturn, 1) := by decide +kernel
theorem dX12_wordHere_23 : decode cX12_wordHere 23 = .ok (.bipush 98, 2) := by decide +kernel
theorem dX12_wordHere_25 : decode cX12_wordHere 25 = .ok (.ireturn, 1) := by decide +kernel
theorem dX12_wordHere_10 : decode cX12_wordHere 10 = .ok (.bipush 105, 2) := by decide +kernel
theorem dX12_wordHere_12 : decode cX12_wordHere 12 = .ok (.ireturn, 1) := by decide +kernel
theorem dX12_rankHere_0 : decode cX12_rankHere 0 = .ok (.aload_n 0, 1) := by decide +kernel
theorem dX12_rankHere_1 : decode cX12_rankHere 1 = .ok (.ldc2_w 164, 3) := by decide +kernel
theorem dX12_rankHere_4 : decode cX12_rankHere 4 = .ok (.invokevirtual 243, 3) := by decide +kernel
theorem dX12_rankHere_7 : decode cX12_rankHere 7 = .ok (.ifCond .eq 5, 3) := by decide +kernel
theorem dX12_rankHere_12 : decode cX12_rankHere 12 = .ok (.aload_n 0, 1) := by decide +kernel
theorem dX12_rankHere_13 : decode cX12_rankHere 13 = .ok (.ldc2_w 166, 3) := by decide +kernel
theorem dX12_rankHere_16 : decode cX12_rankHere 16 = .ok (.invokevirtual 243, 3) := by decide +kernel
theorem dX12_rankHere_19 : decode cX12_rankHere 19 = .ok (.ifCond .eq 5, 3) := by decide +kernel
theorem dX12_rankHere_24 : decode cX12_rankHere 24 = .ok (.aload_n 0, 1) := by decide +kernel
theorem dX12_rankHere_25 : decode cX12_rankHere 25 = .ok (.bipush 60, 2) := by decide +kernel
theorem dX12_rankHere_27 : decode cX12_rankHere 27 = .ok (.invokevirtual 258, 3) := by decide +kernel
theorem dX12_rankHere_30 : decode cX12_rankHere 30 = .ok (.ifCond .ne 21, 3) := by decide +kernel
theorem dX12_rankHere_51 : decode cX12_rankHere 51 = .ok (.iconst 4, 1) := by decide +kernel
theorem dX12_rankHere_52 : decode cX12_rankHere 52 = .ok (.ireturn, 1) := by decide +kernel
theorem dX12_rankHere_33 : decode cX12_rankHere 33 = .ok (.aload_n 0, 1) := by decide +kernel
theorem dX12_rankHere_34 : decode cX12_rankHere 34 = .ok (.bipush 62, 2) := by decide +kernel
theorem dX12_rankHere_36 : decode cX12_rankHere 36 = .ok (.invokevirtual 258, 3) := by decide +kernel
theorem dX12_rankHere_39 : decode cX12_rankHere 39 = .ok (.ifCond .ne 12, 3) := by decide +kernel
theorem dX12_rankHere_42 : decode cX12_rankHere 42 = .ok (.aload_n 0, 1) := by decide +kernel
theorem dX12_rankHere_43 : decode cX12_rankHere 43 = .ok (.bipush 61, 2) := by decide +kernel
theorem dX12_rankHere_45 : decode cX12_rankHere 45 = .ok (.invokevirtual 258, 3) := by decide +kernel
theorem dX12_rankHere_48 : decode cX12_rankHere 48 = .ok (.ifCond .eq 5, 3) := by decide +kernel
theorem dX12_rankHere_53 : decode cX12_rankHere 53 = .ok (.aload_n 0, 1) := by decide +kernel
theorem dX12_rankHere_54 : decode cX12_rankHere 54 = .ok (.bipush 43, 2) := by decide +kernel
theorem dX12_rankHere_56 : decode cX12_rankHere 56 = .ok (.invokevirtual 258, 3) := by decide +kernel
theorem dX12_rankHere_59 : decode cX12_rankHere 59 = .ok (.ifCond .ne 12, 3) := by decide +kernel
theorem dX12_rankHere_71 : decode cX12_rankHere 71 = .ok (.iconst 5, 1) := by decide +kernel
theorem dX12_rankHere_72 : decode cX12_rankHere 72 = .ok (.goto 4, 3) := by decide +kernel
theorem dX12_rankHere_76 : decode cX12_rankHere 76 = .ok (.ireturn, 1) := by decide +kernel
theorem dX12_rankHere_62 : decode cX12_rankHere 62 = .ok (.aload_n 0, 1) := by decide +kernel
theorem dX12_rankHere_63 : decode cX12_rankHere 63 = .ok (.bipush 45, 2) := by decide +kernel
theorem dX12_rankHere_65 : decode cX12_rankHere 65 = .ok (.invokevirtual 258, 3) := by decide +kernel
theorem dX12_rankHere_68 : decode cX12_rankHere 68 = .ok (.ifCond .eq 7, 3) := by decide +kernel
theorem dX12_rankHere_75 : decode cX12_rankHere 75 = .ok (.iconst 0, 1) := by decide +kernel
theorem dX12_rankHere_22 : decode cX12_rankHere 22 = .ok (.iconst 1, 1) := by decide +kernel
theorem dX12_rankHere_23 : decode cX12_rankHere 23 = .ok (.ireturn, 1) := by decide +kernel
theorem dX12_rankHere_10 : decode cX12_rankHere 10 = .ok (.iconst 2, 1) := by decide +kernel
theorem dX12_rankHere_11 : decode cX12_rankHere 11 = .ok (.ireturn, 1) := by decide +kernel
theorem dX12_isCompared_0 : decode cX12_isCompared 0 = .ok (.aload_n 0, 1) := by decide +kernel
theorem dX12_isCompared_1 : decode cX12_isCompared 1 = .ok (.getfield 284, 3) := by decide +kernel
theorem dX12_isCompared_4 : decode cX12_isCompared 4 = .ok (.iconst 1, 1) := by decide +kernel
theorem dX12_isCompared_5 : decode cX12_isCompared 5 = .ok (.isub, 1) := by decide +kernel
theorem dX12_isCompared_6 : decode cX12_isCompared 6 = .ok (.istore_n 1, 1) := by decide +kernel
theorem dX12_isCompared_7 : decode cX12_isCompared 7 = .ok (.aload_n 0, 1) := by decide +kernel
theorem dX12_isCompared_8 : decode cX12_isCompared 8 = .ok (.getfield 68, 3) := by decide +kernel
theorem dX12_isCompared_11 : decode cX12_isCompared 11 = .ok (.iload_n 1, 1) := by decide +kernel
theorem dX12_isCompared_12 : decode cX12_isCompared 12 = .ok (.iaload, 1) := by decide +kernel
theorem dX12_isCompared_13 : decode cX12_isCompared 13 = .ok (.iconst 5, 1) := by decide +kernel
theorem dX12_isCompared_14 : decode cX12_isCompared 14 = .ok (.if_icmp .ne 9, 3) := by decide +kernel
theorem dX12_isCompared_23 : decode cX12_isCompared 23 = .ok (.aload_n 0, 1) := by decide +kernel
theorem dX12_isCompared_24 : decode cX12_isCompared 24 = .ok (.getfield 68, 3) := by decide +kernel
theorem dX12_isCompared_27 : decode cX12_isCompared 27 = .ok (.iload_n 1, 1) := by decide +kernel
theorem dX12_isCompared_28 : decode cX12_isCompared 28 = .ok (.iaload, 1) := by decide +kernel
theorem dX12_isCompared_29 : decode cX12_isCompared 29 = .ok (.iconst 4, 1) := by decide +kernel
theorem dX12_isCompared_30 : decode cX12_isCompared 30 = .ok (.if_icmp .ne 7, 3) := by decide +kernel
theorem dX12_isCompared_37 : decode cX12_isCompared 37 = .ok (.iconst 0, 1) := by decide +kernel
theorem dX12_isCompared_38 : decode cX12_isCompared 38 = .ok (.ireturn, 1) := by decide +kernel
theorem dX12_isCompared_33 : decode cX12_isCompared 33 = .ok (.iconst 1, 1) := by decide +kernel
theorem dX12_isCompared_34 : decode cX12_isCompared 34 = .ok (.goto 4, 3) := by decide +kernel
theorem dX12_isCompared_17 : decode cX12_isCompared 17 = .ok (.iinc 1 (-1), 3) := by decide +kernel
theorem dX12_isCompared_20 : decode cX12_isCompared 20 = .ok (.goto (-13), 3) := by decide +kernel
/-! the reader of the reference -/
def sgn (sz : Int) (t : Nat → Int32) (k : Int) : Int := if k < sz then (t k.toNat &&& 255).toInt else 0
def mz (sz en tk : Int) : Int := 2 * (sz - en) + (if tk = 0 then 0 else 1)
def tkm (m fk : Int) : Nat := if fk = 0 then m.toNat + 1 else 0
theorem mz_nn {sz en tk : Int} (h : en ≤ sz) : 0 ≤ mz sz en tk := by
  unfold mz
  split <;> omega
theorem mz_go {sz e0 t0 e1 t1 : Int} (h0 : e0 ≤ sz) (h1 : e1 ≤ sz) (hs : (t1 = 0 ∧ e1 = sz) ∨ (t1 ≠ 0 ∧ e0 < e1)) : 0 ≤ mz sz e1 t1 ∧ mz sz e1 t1 ≤ mz sz e0 t0 ∧ (t0 = 0 ∨ mz sz e1 t1 < mz sz e0 t0) := by
  unfold mz
  split <;> split <;> omega
theorem tkm_lt {m1 f1 m0 f0 : Int} (h0 : f0 = 0) (h : f1 ≠ 0 ∨ (0 ≤ m1 ∧ m1 < m0)) : tkm m1 f1 < tkm m0 f0 := by
  unfold tkm
  rw [if_pos h0]
  split <;> omega
set_option maxHeartbeats 4000000 in
set_option maxRecDepth 100000 in
theorem m_sign (l : Launch) (G : va_G) (cy : Nat → ClassId) (sz : Nat) (mo : Nat) (h : Nat → Nat) (T : Int) (v : Nat → Int32) (nm : Int64) (f : Nat → Nat → Int32) (g : Nat → Nat → Int64) (n : Int32)  (hv : MIv T v) (hf : MIf f) (hR : RI v f) (hL : WL v f) (h_n : 0 ≤ n.toInt ∧ n.toInt ≤ 1701) : Met l yX12_sign (.code yX12_sign cX12_sign 2 (some .int) :: TBg) ({ frames := 1, cells := 0, slots := 0, locals := 64 }) (va_Pc [.ref mo, .int n] (En G cy (WMs cy mo h v nm f g) sz)) (va_Qi (fun (r : Int32) (_ : Unit) => (0 ≤ r.toInt ∧ r.toInt ≤ 255) ∧ (r.toInt = sgn (v 3).toInt (f 1) n.toInt ∧ (r.toInt = 0 ∨ n.toInt < (v 3).toInt))) (fun _ _ => True) (va_A [] sz)) 0 0 (va_A [] sz) := by
  refine Met.ofW (cc := cX12_sign) (maxL := 2) (ret := (some .int)) (by decide) rfl ?_
  intro p e s m args below meth c s₁ B hml hv9
  obtain ⟨rfl, hsz, hP, hK, hD0, hN⟩ := hv9
  have hx := B.exec
  have hb := B.bytes
  have hr := B.returns
  have hts := atoms_spec (ws := .code yX12_sign cX12_sign 2 (some .int) :: TBg) B.pre
  have ht : ∀ w ∈ TBg, w.before _ s = true := fun w h => hts w (List.mem_cons_of_mem _ h)
  have hown : s.vm.findClass RX12 = some m.cls := findClass_of_methodNamed B.named
  have hlocks := B.notSynchronized
  subst hsz
  generalize hAe : va_A [] s.heap.size = A at ⊢
  have hA : ∀ q : Nat, s.heap.size ≤ q → A q := fun q h => by rw [← hAe]; exact Or.inr h
  have hS : va_S A s.heap s.heap [] := va_S.rf
  have hl := lv_entry ([.ref mo, .int n]) (n := 2) (Nat.le_of_ble_eq_true rfl)
  rw [lg_entry_eq]
  generalize (lg_sl ([.ref mo, .int n]) ++ List.replicate (2 - (lg_sl ([.ref mo, .int n])).length) Slot.unset).toArray = ls at hl ⊢
  have hl : lv_has ls 2 [(0, .ref mo), (1, .int n)] := hl
  have z0 : (0 : Int32).toInt = 0 := by decide
  refine lv_iload_n hx hb dX12_sign_0 rfl (lv_at hl 1 rfl) ?_
  refine lv_aload_n hx hb dX12_sign_1 rfl (lv_at hl 0 rfl) ?_
  refine mg_3 hx hb ht hown hK hP dX12_sign_2 ?_
  have q_1 : 0 ≤ (v 3).toInt ∧ (v 3).toInt ≤ 1700 := hv 3
  refine lv_icmp_ge (tgt := 21) hx hb dX12_sign_5 (by decide) (fun c_2 => ?_) (fun c_2 => ?_)
  · have q_3 : (v 3).toInt ≤ n.toInt := (ow_le _ _).mp c_2
    refine lv_iconst (v := 0) hx hb dX12_sign_21 (by decide) ?_
    refine W.widen (k := 0) (n := 0) (Nat.le_of_ble_eq_true rfl) (Nat.le_of_ble_eq_true rfl) ?_
    exact W.iret (v := 0) hx hb hr (fun t ht9 hW => ⟨⟨0, (), rfl, ⟨by omega, by unfold sgn; rw [if_neg (by omega)]; decide, by omega⟩, trivial⟩, hS.F ht9⟩) hS.2.2 dX12_sign_22
  · have q_4 : n.toInt < (v 3).toInt := by have := (not_congr (ow_le _ _)).mp c_2; omega
    refine lv_aload_n hx hb dX12_sign_8 rfl (lv_at hl 0 rfl) ?_
    refine mg_1 hx hb ht hown hK hP dX12_sign_9 ?_
    refine lv_iload_n hx hb dX12_sign_12 rfl (lv_at hl 1 rfl) ?_
    have q_5 : vp_in n 1700 := vp_in_iff.mpr ⟨by omega, by omega⟩
    refine ml_1 hx hb hK hP q_5 dX12_sign_13 ?_
    refine lv_topi (fun v_6 ev_6 => ?_)
    refine lv_sipush (v := 255) hx hb dX12_sign_14 (by decide) ?_
    refine lv_iand hx hb dX12_sign_17 ?_
    refine lv_topi (fun v_7 ev_7 => ?_)
    have q_8 : 0 ≤ v_7.toInt ∧ v_7.toInt ≤ 255 := by rw [ev_7]; exact ow_and255 _
    refine lv_goto (tgt := 22) hx hb dX12_sign_18 (by decide) ?_
    refine W.widen (k := 0) (n := 0) (Nat.le_of_ble_eq_true rfl) (Nat.le_of_ble_eq_true rfl) ?_
    exact W.iret (v := v_7) hx hb hr (fun t ht9 hW => ⟨⟨v_7, (), rfl, ⟨by omega, by unfold sgn; rw [if_pos (by omega), ev_7, ev_6]; rfl, by omega⟩, trivial⟩, hS.F ht9⟩) hS.2.2 dX12_sign_22
set_option maxHeartbeats 4000000 in
set_option maxRecDepth 100000 in
theorem m_fails (l : Launch) (G : va_G) (cy : Nat → ClassId) (sz : Nat) (mo : Nat) (h : Nat → Nat) (T : Int) (v : Nat → Int32) (nm : Int64) (f : Nat → Nat → Int32) (g : Nat → Nat → Int64) (n : Int32) (n2 : Int32)  (hv : MIv T v) (hf : MIf f) (hR : RI v f) (hL : WL v f) (h_n : 1 ≤ n.toInt ∧ n.toInt ≤ 5) : Met l yX12_fails (.code yX12_fails cX12_fails 3 none :: TBg) ({ frames := 1, cells := 0, slots := 0, locals := 64 }) (va_Pc [.ref mo, .int n, .int n2] (En G cy (WMs cy mo h v nm f g) sz)) (va_Qv (fun (u : (Nat → Int32) × Int64) => MIv T u.1 ∧ FV [4, 5] v u.1 ∧ ((1 ≤ (u.1 4).toInt))) (fun u t => Ex G (va_A (WMs cy mo h v nm f g) sz) (WMs cy mo h u.1 u.2 f g) t) (va_A (WMs cy mo h v nm f g) sz)) 0 0 (va_A (WMs cy mo h v nm f g) sz) := by
  refine Met.ofW (cc := cX12_fails) (maxL := 3) (ret := none) (by decide) rfl ?_
  intro p e s m args below meth c s₁ B hml hv9
  obtain ⟨rfl, hsz, hP, hK, hD0, hN⟩ := hv9
  have hx := B.exec
  have hb := B.bytes
  have hr := B.returns
  have hts := atoms_spec (ws := .code yX12_fails cX12_fails 3 none :: TBg) B.pre
  have ht : ∀ w ∈ TBg, w.before _ s = true := fun w h => hts w (List.mem_cons_of_mem _ h)
  have hown : s.vm.findClass RX12 = some m.cls := findClass_of_methodNamed B.named
  have hlocks := B.notSynchronized
  subst hsz
  have hD := hD0.self (sz := s.heap.size)
  generalize hAe : va_A (WMs cy mo h v nm f g) s.heap.size = A at hD ⊢
  have hA : ∀ q : Nat, s.heap.size ≤ q → A q := fun q h => by rw [← hAe]; exact Or.inr h
  have hS : va_S A s.heap s.heap [] := va_S.rf
  have hl := lv_entry ([.ref mo, .int n, .int n2]) (n := 3) (Nat.le_of_ble_eq_true rfl)
  rw [lg_entry_eq]
  generalize (lg_sl ([.ref mo, .int n, .int n2]) ++ List.replicate (3 - (lg_sl ([.ref mo, .int n, .int n2])).length) Slot.unset).toArray = ls at hl ⊢
  have hl : lv_has ls 3 [(0, .ref mo), (1, .int n), (2, .int n2)] := hl
  have z0 : (0 : Int32).toInt = 0 := by decide
  have hf_0 := hf
  have hV_0 : FV [4, 5] v v := FV.rf
  refine lv_aload_n hx hb dX12_fails_0 rfl (lv_at hl 0 rfl) ?_
  refine mg_4 hx hb ht hown hK hP dX12_fails_1 ?_
  have q_1 : 0 ≤ (v 4).toInt ∧ (v 4).toInt ≤ 5 := hv 4
  refine lv_if_le (tgt := 8) hx hb dX12_fails_4 (by decide) (fun c_2 => ?_) (fun c_2 => ?_)
  · have q_3 : (v 4).toInt ≤ (0 : Int32).toInt := (ow_le _ _).mp c_2
    refine lv_aload_n hx hb dX12_fails_8 rfl (lv_at hl 0 rfl) ?_
    refine lv_iload_n hx hb dX12_fails_9 rfl (lv_at hl 1 rfl) ?_
    refine mp_4 hx hb ht hown hK hP hD hS dX12_fails_10 (fun H locs hP hD hS => ?_)
    have hv := MIv.up 4 hv (show 0 ≤ n.toInt ∧ n.toInt ≤ 5 from by omega)
    have hL : WL (va_up v 4 n) f := WL.upv 4 hL (by decide)
    have hR : RI (va_up v 4 n) f := RI.upv 4 hR (by decide)
    have hV_0 := FV.up hV_0 4 n (by decide)
    refine lv_aload_n hx hb dX12_fails_13 rfl (lv_at hl 0 rfl) ?_
    refine lv_iload_n hx hb dX12_fails_14 rfl (lv_at hl 2 rfl) ?_
    refine mp_5 hx hb ht hown hK hP hD hS dX12_fails_15 (fun H locs hP hD hS => ?_)
    have hv := MIv.up 5 hv (ow_any n2)
    have hL : WL (va_up (va_up v 4 n) 5 n2) f := WL.upv 5 hL (by decide)
    have hR : RI (va_up (va_up v 4 n) 5 n2) f := RI.upv 5 hR (by decide)
    have hV_0 := FV.up hV_0 5 n2 (by decide)
    refine W.widen (k := 0) (n := 0) (Nat.le_of_ble_eq_true rfl) (Nat.le_of_ble_eq_true rfl) ?_
    exact W.vret hx hb hr (fun t ht9 hW => ⟨⟨((va_up (va_up v 4 n) 5 n2), nm), rfl, ⟨hv, hV_0, (show 1 ≤ n.toInt from by first | omega | (subst_vars; first | rfl | omega))⟩, ⟨by rw [ht9]; exact hP, hD⟩⟩, hS.F ht9⟩) hS.2.2 dX12_fails_18
  · have q_4 : (0 : Int32).toInt < (v 4).toInt := by have := (not_congr (ow_le _ _)).mp c_2; omega
    refine W.widen (k := 0) (n := 0) (Nat.le_of_ble_eq_true rfl) (Nat.le_of_ble_eq_true rfl) ?_
    exact W.vret hx hb hr (fun t ht9 hW => ⟨⟨(v, nm), rfl, ⟨hv, hV_0, (show 1 ≤ (v 4).toInt from by first | omega | (subst_vars; first | rfl | omega))⟩, ⟨by rw [ht9]; exact hP, hD⟩⟩, hS.F ht9⟩) hS.2.2 dX12_fails_7
set_option maxHeartbeats 4000000 in
set_option maxRecDepth 100000 in
theorem m_isGood (l : Launch) (G : va_G) (cy : Nat → ClassId) (sz : Nat) (mo : Nat) (h : Nat → Nat) (T : Int) (v : Nat → Int32) (nm : Int64) (f : Nat → Nat → Int32) (g : Nat → Nat → Int64)   (hv : MIv T v) (hf : MIf f) (hR : RI v f) (hL : WL v f)  : Met l yX12_isGood (.code yX12_isGood cX12_isGood 1 (some .boolean) :: TBg) ({ frames := 1, cells := 0, slots := 0, locals := 64 }) (va_Pc [.ref mo] (En G cy (WMs cy mo h v nm f g) sz)) (va_Qi (fun (r : Int32) (_ : Unit) => (r.toInt = 0 ∨ r.toInt = 1) ∧ ((r.toInt = 1 ∧ (v 4).toInt = 0) ∨ (r.toInt = 0 ∧ (v 4).toInt ≠ 0))) (fun _ _ => True) (va_A [] sz)) 0 0 (va_A [] sz) := by
  refine Met.ofW (cc := cX12_isGood) (maxL := 1) (ret := (some .boolean)) (by decide) rfl ?_
  intro p e s m args below meth c s₁ B hml hv9
  obtain ⟨rfl, hsz, hP, hK, hD0, hN⟩ := hv9
  have hx := B.exec
  have hb := B.bytes
  have hr := B.returns
  have hts := atoms_spec (ws := .code yX12_isGood cX12_isGood 1 (some .boolean) :: TBg) B.pre
  have ht : ∀ w ∈ TBg, w.before _ s = true := fun w h => hts w (List.mem_cons_of_mem _ h)
  have hown : s.vm.findClass RX12 = some m.cls := findClass_of_methodNamed B.named
  have hlocks := B.notSynchronized
  subst hsz
  generalize hAe : va_A [] s.heap.size = A at ⊢
  have hA : ∀ q : Nat, s.heap.size ≤ q → A q := fun q h => by rw [← hAe]; exact Or.inr h
  have hS : va_S A s.heap s.heap [] := va_S.rf
  have hl := lv_entry ([.ref mo]) (n := 1) (Nat.le_of_ble_eq_true rfl)
  rw [lg_entry_eq]
  generalize (lg_sl ([.ref mo]) ++ List.replicate (1 - (lg_sl ([.ref mo])).length) Slot.unset).toArray = ls at hl ⊢
  have hl : lv_has ls 1 [(0, .ref mo)] := hl
  have z0 : (0 : Int32).toInt = 0 := by decide
  have z1 : (1 : Int32).toInt = 1 := by decide
  refine lv_aload_n hx hb dX12_isGood_0 rfl (lv_at hl 0 rfl) ?_
  refine mg_4 hx hb ht hown hK hP dX12_isGood_1 ?_
  have q_1 : 0 ≤ (v 4).toInt ∧ (v 4).toInt ≤ 5 := hv 4
  refine lv_if_ne (tgt := 11) hx hb dX12_isGood_4 (by decide) (fun c_2 => ?_) (fun c_2 => ?_)
  · have q_3 : ¬ (v 4).toInt = (0 : Int32).toInt := by have := (not_congr (ow_eq _ _)).mp c_2; omega
    refine lv_iconst (v := 0) hx hb dX12_isGood_11 (by decide) ?_
    refine W.widen (k := 0) (n := 0) (Nat.le_of_ble_eq_true rfl) (Nat.le_of_ble_eq_true rfl) ?_
    exact W.zret (v := 0) hx hb hr rfl (fun t ht9 hW => ⟨⟨0, (), rfl, ⟨(by omega), (show ((0 : Int32).toInt = 1 ∧ (v 4).toInt = 0) ∨ ((0 : Int32).toInt = 0 ∧ (v 4).toInt ≠ 0) from by first | omega | (subst_vars; first | rfl | omega))⟩, trivial⟩, hS.F ht9⟩) hS.2.2 dX12_isGood_12
  · have q_4 : (v 4).toInt = (0 : Int32).toInt := (ow_eq _ _).mp c_2
    refine lv_iconst (v := 1) hx hb dX12_isGood_7 (by decide) ?_
    refine lv_goto (tgt := 12) hx hb dX12_isGood_8 (by decide) ?_
    refine W.widen (k := 0) (n := 0) (Nat.le_of_ble_eq_true rfl) (Nat.le_of_ble_eq_true rfl) ?_
    exact W.zret (v := 1) hx hb hr rfl (fun t ht9 hW => ⟨⟨1, (), rfl, ⟨(by omega), (show ((1 : Int32).toInt = 1 ∧ (v 4).toInt = 0) ∨ ((1 : Int32).toInt = 0 ∧ (v 4).toInt ≠ 0) from by first | omega | (subst_vars; first | rfl | omega))⟩, trivial⟩, hS.F ht9⟩) hS.2.2 dX12_isGood_12
set_option maxHeartbeats 4000000 in
set_option maxRecDepth 100000 in
theorem m_isKept (l : Launch) (G : va_G) (cy : Nat → ClassId) (sz : Nat)  (w : Int64)    : Met l yX12_isKept (.code yX12_isKept cX12_isKept 3 (some .boolean) :: TBg) ({ frames := 1, cells := 0, slots := 0, locals := 64 }) (va_Pc [.long w] (En G cy [] sz)) (va_Qi (fun (r : Int32) (_ : Unit) => (r.toInt = 0 ∨ r.toInt = 1)) (fun _ _ => True) (va_A [] sz)) 0 0 (va_A [] sz) := by
  refine Met.ofW (cc := cX12_isKept) (maxL := 3) (ret := (some .boolean)) (by decide) rfl ?_
  intro p e s m args below meth c s₁ B hml hv9
  obtain ⟨rfl, hsz, hP, hK, hD0, hN⟩ := hv9
  have hx := B.exec
  have hb := B.bytes
  have hr := B.returns
  have hts := atoms_spec (ws := .code yX12_isKept cX12_isKept 3 (some .boolean) :: TBg) B.pre
  have ht : ∀ w ∈ TBg, w.before _ s = true := fun w h => hts w (List.mem_cons_of_mem _ h)
  have hown : s.vm.findClass RX12 = some m.cls := findClass_of_methodNamed B.named
  have hlocks := B.notSynchronized
  subst hsz
  generalize hAe : va_A [] s.heap.size = A at ⊢
  have hA : ∀ q : Nat, s.heap.size ≤ q → A q := fun q h => by rw [← hAe]; exact Or.inr h
  have hS : va_S A s.heap s.heap [] := va_S.rf
  have hl := lv_entry ([.long w]) (n := 3) (Nat.le_of_ble_eq_true rfl)
  rw [lg_entry_eq]
  generalize (lg_sl ([.long w]) ++ List.replicate (3 - (lg_sl ([.long w])).length) Slot.unset).toArray = ls at hl ⊢
  have hl : lv_has ls 3 [(0, .long w)] := hl
  have z0 : (0 : Int32).toInt = 0 := by decide
  have z1 : (1 : Int32).toInt = 1 := by decide
  refine W.widen (k := 0) (n := 0) (Nat.le_of_ble_eq_true rfl) (Nat.le_of_ble_eq_true rfl) ?_
  have jn_1 : ∀ (x2_1 : Int32) (H : Heap) (locs : List Loc) (ls : Array Slot), (0 ≤ x2_1.toInt ∧ x2_1.toInt ≤ 1) → va_P G vwCl [] H → va_S A s.heap H locs → lv_has ls 3 [(0, .long w), (2, .int x2_1)] → W p l e (headSpec (.code yX12_isKept cX12_isKept 3 (some .boolean) :: TBg) ({ frames := 1, cells := 0, slots := 0, locals := 64 })).room s m ([.long w] : List Value).toArray below meth c H locs 0 0 (MQ below (va_Qi (fun (r : Int32) (_ : Unit) => (r.toInt = 0 ∨ r.toInt = 1)) (fun _ _ => True) A) ([.long w] : List Value).toArray s 0 0 A) (F0 m 70 ls []) := by
    intro x2_1 H locs ls qf1_0 hP hS hl
    refine lv_iload_n hx hb dX12_isKept_70 rfl (lv_at hl 1 rfl) ?_
    refine lv_if_ne (tgt := 130) hx hb dX12_isKept_71 (by decide) (fun c_2 => ?_) (fun c_2 => ?_)
    · have q_3 : ¬ x2_1.toInt = (0 : Int32).toInt := by have := (not_congr (ow_eq _ _)).mp c_2; omega
      refine lv_iconst (v := 1) hx hb dX12_isKept_130 (by decide) ?_
      refine lv_goto (tgt := 135) hx hb dX12_isKept_131 (by decide) ?_
      refine W.widen (k := 0) (n := 0) (Nat.le_of_ble_eq_true rfl) (Nat.le_of_ble_eq_true rfl) ?_
      exact W.zret (v := 1) hx hb hr rfl (fun t ht9 hW => ⟨⟨1, (), rfl, (by omega), trivial⟩, hS.F ht9⟩) hS.2.2 dX12_isKept_135
    · have q_4 : x2_1.toInt = (0 : Int32).toInt := (ow_eq _ _).mp c_2
      refine lv_lload_n hx hb dX12_isKept_74 rfl (lv_at hl 0 rfl) ?_
      refine lv_ldc2 (v := 1701733491) hx hb hown (ht _ k_191) dX12_isKept_75 ?_
      refine W.lcmp hx hb dX12_isKept_78 ?_
      refine lv_topi (fun v_5 ev_5 => ?_)
      refine lv_if_eq (tgt := 130) hx hb dX12_isKept_79 (by decide) (fun c_6 => ?_) (fun c_6 => ?_)
      · have q_7 : v_5.toInt = (0 : Int32).toInt := (ow_eq _ _).mp c_6
        have lc_8 : w = (1701733491 : Int64) := (lg_cmp_eq _ _).mp (by rw [← ev_5]; exact (ow_eq _ _).mpr (by omega))
        refine lv_iconst (v := 1) hx hb dX12_isKept_130 (by decide) ?_
        refine lv_goto (tgt := 135) hx hb dX12_isKept_131 (by decide) ?_
        refine W.widen (k := 0) (n := 0) (Nat.le_of_ble_eq_true rfl) (Nat.le_of_ble_eq_true rfl) ?_
        exact W.zret (v := 1) hx hb hr rfl (fun t ht9 hW => ⟨⟨1, (), rfl, (by omega), trivial⟩, hS.F ht9⟩) hS.2.2 dX12_isKept_135
      · have q_9 : ¬ v_5.toInt = (0 : Int32).toInt := by have := (not_congr (ow_eq _ _)).mp c_6; omega
        have lc_10 : ¬ w = (1701733491 : Int64) := fun h9 => q_9 (by rw [ev_5, (lg_cmp_eq _ _).mpr h9])
        refine lv_lload_n hx hb dX12_isKept_82 rfl (lv_at hl 0 rfl) ?_
        refine lv_ldc2 (v := 474214787188) hx hb hown (ht _ k_192) dX12_isKept_83 ?_
        refine W.lcmp hx hb dX12_isKept_86 ?_
        refine lv_topi (fun v_11 ev_11 => ?_)
        refine lv_if_eq (tgt := 130) hx hb dX12_isKept_87 (by decide) (fun c_12 => ?_) (fun c_12 => ?_)
        · have q_13 : v_11.toInt = (0 : Int32).toInt := (ow_eq _ _).mp c_12
          have lc_14 : w = (474214787188 : Int64) := (lg_cmp_eq _ _).mp (by rw [← ev_11]; exact (ow_eq _ _).mpr (by omega))
          refine lv_iconst (v := 1) hx hb dX12_isKept_130 (by decide) ?_
          refine lv_goto (tgt := 135) hx hb dX12_isKept_131 (by decide) ?_
          refine W.widen (k := 0) (n := 0) (Nat.le_of_ble_eq_true rfl) (Nat.le_of_ble_eq_true rfl) ?_
          exact W.zret (v := 1) hx hb hr rfl (fun t ht9 hW => ⟨⟨1, (), rfl, (by omega), trivial⟩, hS.F ht9⟩) hS.2.2 dX12_isKept_135
        · have q_15 : ¬ v_11.toInt = (0 : Int32).toInt := by have := (not_congr (ow_eq _ _)).mp c_12; omega
          have lc_16 : ¬ w = (474214787188 : Int64) := fun h9 => q_15 (by rw [ev_11, (lg_cmp_eq _ _).mpr h9])
          refine lv_lload_n hx hb dX12_isKept_90 rfl (lv_at hl 0 rfl) ?_
          refine lv_ldc2 (v := 474316301683) hx hb hown (ht _ k_193) dX12_isKept_91 ?_
          refine W.lcmp hx hb dX12_isKept_94 ?_
          refine lv_topi (fun v_17 ev_17 => ?_)
          refine lv_if_eq (tgt := 130) hx hb dX12_isKept_95 (by decide) (fun c_18 => ?_) (fun c_18 => ?_)
          · have q_19 : v_17.toInt = (0 : Int32).toInt := (ow_eq _ _).mp c_18
            have lc_20 : w = (474316301683 : Int64) := (lg_cmp_eq _ _).mp (by rw [← ev_17]; exact (ow_eq _ _).mpr (by omega))
            refine lv_iconst (v := 1) hx hb dX12_isKept_130 (by decide) ?_
            refine lv_goto (tgt := 135) hx hb dX12_isKept_131 (by decide) ?_
            refine W.widen (k := 0) (n := 0) (Nat.le_of_ble_eq_true rfl) (Nat.le_of_ble_eq_true rfl) ?_
            exact W.zret (v := 1) hx hb hr rfl (fun t ht9 hW => ⟨⟨1, (), rfl, (by omega), trivial⟩, hS.F ht9⟩) hS.2.2 dX12_isKept_135
          · have q_21 : ¬ v_17.toInt = (0 : Int32).toInt := by have := (not_congr (ow_eq _ _)).mp c_18; omega
            have lc_22 : ¬ w = (474316301683 : Int64) := fun h9 => q_21 (by rw [ev_17, (lg_cmp_eq _ _).mpr h9])
            refine lv_lload_n hx hb dX12_isKept_98 rfl (lv_at hl 0 rfl) ?_
            refine lv_ldc2 (v := 2003792494) hx hb hown (ht _ k_194) dX12_isKept_99 ?_
            refine W.lcmp hx hb dX12_isKept_102 ?_
            refine lv_topi (fun v_23 ev_23 => ?_)
            refine lv_if_eq (tgt := 130) hx hb dX12_isKept_103 (by decide) (fun c_24 => ?_) (fun c_24 => ?_)
            · have q_25 : v_23.toInt = (0 : Int32).toInt := (ow_eq _ _).mp c_24
              have lc_26 : w = (2003792494 : Int64) := (lg_cmp_eq _ _).mp (by rw [← ev_23]; exact (ow_eq _ _).mpr (by omega))
              refine lv_iconst (v := 1) hx hb dX12_isKept_130 (by decide) ?_
              refine lv_goto (tgt := 135) hx hb dX12_isKept_131 (by decide) ?_
              refine W.widen (k := 0) (n := 0) (Nat.le_of_ble_eq_true rfl) (Nat.le_of_ble_eq_true rfl) ?_
              exact W.zret (v := 1) hx hb hr rfl (fun t ht9 hW => ⟨⟨1, (), rfl, (by omega), trivial⟩, hS.F ht9⟩) hS.2.2 dX12_isKept_135
            · have q_27 : ¬ v_23.toInt = (0 : Int32).toInt := by have := (not_congr (ow_eq _ _)).mp c_24; omega
              have lc_28 : ¬ w = (2003792494 : Int64) := fun h9 => q_27 (by rw [ev_23, (lg_cmp_eq _ _).mpr h9])
              refine lv_lload_n hx hb dX12_isKept_106 rfl (lv_at hl 0 rfl) ?_
              refine lv_ldc2 (v := 6385252) hx hb hown (ht _ k_195) dX12_isKept_107 ?_
              refine W.lcmp hx hb dX12_isKept_110 ?_
              refine lv_topi (fun v_29 ev_29 => ?_)
              refine lv_if_eq (tgt := 130) hx hb dX12_isKept_111 (by decide) (fun c_30 => ?_) (fun c_30 => ?_)
              · have q_31 : v_29.toInt = (0 : Int32).toInt := (ow_eq _ _).mp c_30
                have lc_32 : w = (6385252 : Int64) := (lg_cmp_eq _ _).mp (by rw [← ev_29]; exact (ow_eq _ _).mpr (by omega))
                refine lv_iconst (v := 1) hx hb dX12_isKept_130 (by decide) ?_
                refine lv_goto (tgt := 135) hx hb dX12_isKept_131 (by decide) ?_
                refine W.widen (k := 0) (n := 0) (Nat.le_of_ble_eq_true rfl) (Nat.le_of_ble_eq_true rfl) ?_
                exact W.zret (v := 1) hx hb hr rfl (fun t ht9 hW => ⟨⟨1, (), rfl, (by omega), trivial⟩, hS.F ht9⟩) hS.2.2 dX12_isKept_135
              · have q_33 : ¬ v_29.toInt = (0 : Int32).toInt := by have := (not_congr (ow_eq _ _)).mp c_30; omega
                have lc_34 : ¬ w = (6385252 : Int64) := fun h9 => q_33 (by rw [ev_29, (lg_cmp_eq _ _).mpr h9])
                refine lv_lload_n hx hb dX12_isKept_114 rfl (lv_at hl 0 rfl) ?_
                refine lv_ldc2 (v := 28530) hx hb hown (ht _ k_196) dX12_isKept_115 ?_
                refine W.lcmp hx hb dX12_isKept_118 ?_
                refine lv_topi (fun v_35 ev_35 => ?_)
                refine lv_if_eq (tgt := 130) hx hb dX12_isKept_119 (by decide) (fun c_36 => ?_) (fun c_36 => ?_)
                · have q_37 : v_35.toInt = (0 : Int32).toInt := (ow_eq _ _).mp c_36
                  have lc_38 : w = (28530 : Int64) := (lg_cmp_eq _ _).mp (by rw [← ev_35]; exact (ow_eq _ _).mpr (by omega))
                  refine lv_iconst (v := 1) hx hb dX12_isKept_130 (by decide) ?_
                  refine lv_goto (tgt := 135) hx hb dX12_isKept_131 (by decide) ?_
                  refine W.widen (k := 0) (n := 0) (Nat.le_of_ble_eq_true rfl) (Nat.le_of_ble_eq_true rfl) ?_
                  exact W.zret (v := 1) hx hb hr rfl (fun t ht9 hW => ⟨⟨1, (), rfl, (by omega), trivial⟩, hS.F ht9⟩) hS.2.2 dX12_isKept_135
                · have q_39 : ¬ v_35.toInt = (0 : Int32).toInt := by have := (not_congr (ow_eq _ _)).mp c_36; omega
                  have lc_40 : ¬ w = (28530 : Int64) := fun h9 => q_39 (by rw [ev_35, (lg_cmp_eq _ _).mpr h9])
                  refine lv_lload_n hx hb dX12_isKept_122 rfl (lv_at hl 0 rfl) ?_
                  refine lv_ldc2 (v := 7237492) hx hb hown (ht _ k_197) dX12_isKept_123 ?_
                  refine W.lcmp hx hb dX12_isKept_126 ?_
                  refine lv_topi (fun v_41 ev_41 => ?_)
                  refine lv_if_ne (tgt := 134) hx hb dX12_isKept_127 (by decide) (fun c_42 => ?_) (fun c_42 => ?_)
                  · have q_43 : ¬ v_41.toInt = (0 : Int32).toInt := by have := (not_congr (ow_eq _ _)).mp c_42; omega
                    have lc_44 : ¬ w = (7237492 : Int64) := fun h9 => q_43 (by rw [ev_41, (lg_cmp_eq _ _).mpr h9])
                    refine lv_iconst (v := 0) hx hb dX12_isKept_134 (by decide) ?_
                    refine W.widen (k := 0) (n := 0) (Nat.le_of_ble_eq_true rfl) (Nat.le_of_ble_eq_true rfl) ?_
                    exact W.zret (v := 0) hx hb hr rfl (fun t ht9 hW => ⟨⟨0, (), rfl, (by omega), trivial⟩, hS.F ht9⟩) hS.2.2 dX12_isKept_135
                  · have q_45 : v_41.toInt = (0 : Int32).toInt := (ow_eq _ _).mp c_42
                    have lc_46 : w = (7237492 : Int64) := (lg_cmp_eq _ _).mp (by rw [← ev_41]; exact (ow_eq _ _).mpr (by omega))
                    refine lv_iconst (v := 1) hx hb dX12_isKept_130 (by decide) ?_
                    refine lv_goto (tgt := 135) hx hb dX12_isKept_131 (by decide) ?_
                    refine W.widen (k := 0) (n := 0) (Nat.le_of_ble_eq_true rfl) (Nat.le_of_ble_eq_true rfl) ?_
                    exact W.zret (v := 1) hx hb hr rfl (fun t ht9 hW => ⟨⟨1, (), rfl, (by omega), trivial⟩, hS.F ht9⟩) hS.2.2 dX12_isKept_135
  refine lv_lload_n hx hb dX12_isKept_0 rfl (lv_at hl 0 rfl) ?_
  refine lv_ldc2 (v := 1953853029) hx hb hown (ht _ k_198) dX12_isKept_1 ?_
  refine W.lcmp hx hb dX12_isKept_4 ?_
  refine lv_topi (fun v_47 ev_47 => ?_)
  refine lv_if_eq (tgt := 64) hx hb dX12_isKept_5 (by decide) (fun c_48 => ?_) (fun c_48 => ?_)
  · have q_49 : v_47.toInt = (0 : Int32).toInt := (ow_eq _ _).mp c_48
    have lc_50 : w = (1953853029 : Int64) := (lg_cmp_eq _ _).mp (by rw [← ev_47]; exact (ow_eq _ _).mpr (by omega))
    refine lv_iconst (v := 1) hx hb dX12_isKept_64 (by decide) ?_
    refine lv_goto (tgt := 69) hx hb dX12_isKept_65 (by decide) ?_
    refine lv_istore_n (lv' := [(2, .int 1), (0, .long w)]) hx hb dX12_isKept_69 rfl hl (by decide) rfl (fun ls hl => ?_)
    refine W.widen (k := 0) (n := 0) (Nat.le_of_ble_eq_true rfl) (Nat.le_of_ble_eq_true rfl) ?_
    exact jn_1 (1) _ _ _ (by omega) hP hS (lv_sub hl [1, 0] rfl)
  · have q_51 : ¬ v_47.toInt = (0 : Int32).toInt := by have := (not_congr (ow_eq _ _)).mp c_48; omega
    have lc_52 : ¬ w = (1953853029 : Int64) := fun h9 => q_51 (by rw [ev_47, (lg_cmp_eq _ _).mpr h9])
    refine lv_lload_n hx hb dX12_isKept_8 rfl (lv_at hl 0 rfl) ?_
    refine lv_ldc2 (v := 28518) hx hb hown (ht _ k_199) dX12_isKept_9 ?_
    refine W.lcmp hx hb dX12_isKept_12 ?_
    refine lv_topi (fun v_53 ev_53 => ?_)
    refine lv_if_eq (tgt := 64) hx hb dX12_isKept_13 (by decide) (fun c_54 => ?_) (fun c_54 => ?_)
    · have q_55 : v_53.toInt = (0 : Int32).toInt := (ow_eq _ _).mp c_54
      have lc_56 : w = (28518 : Int64) := (lg_cmp_eq _ _).mp (by rw [← ev_53]; exact (ow_eq _ _).mpr (by omega))
      refine lv_iconst (v := 1) hx hb dX12_isKept_64 (by decide) ?_
      refine lv_goto (tgt := 69) hx hb dX12_isKept_65 (by decide) ?_
      refine lv_istore_n (lv' := [(2, .int 1), (0, .long w)]) hx hb dX12_isKept_69 rfl hl (by decide) rfl (fun ls hl => ?_)
      refine W.widen (k := 0) (n := 0) (Nat.le_of_ble_eq_true rfl) (Nat.le_of_ble_eq_true rfl) ?_
      exact jn_1 (1) _ _ _ (by omega) hP hS (lv_sub hl [1, 0] rfl)
    · have q_57 : ¬ v_53.toInt = (0 : Int32).toInt := by have := (not_congr (ow_eq _ _)).mp c_54; omega
      have lc_58 : ¬ w = (28518 : Int64) := fun h9 => q_57 (by rw [ev_53, (lg_cmp_eq _ _).mpr h9])
      refine lv_lload_n hx hb dX12_isKept_16 rfl (lv_at hl 0 rfl) ?_
      refine lv_ldc2 (v := 1819239275) hx hb hown (ht _ k_200) dX12_isKept_17 ?_
      refine W.lcmp hx hb dX12_isKept_20 ?_
      refine lv_topi (fun v_59 ev_59 => ?_)
      refine lv_if_eq (tgt := 64) hx hb dX12_isKept_21 (by decide) (fun c_60 => ?_) (fun c_60 => ?_)
      · have q_61 : v_59.toInt = (0 : Int32).toInt := (ow_eq _ _).mp c_60
        have lc_62 : w = (1819239275 : Int64) := (lg_cmp_eq _ _).mp (by rw [← ev_59]; exact (ow_eq _ _).mpr (by omega))
        refine lv_iconst (v := 1) hx hb dX12_isKept_64 (by decide) ?_
        refine lv_goto (tgt := 69) hx hb dX12_isKept_65 (by decide) ?_
        refine lv_istore_n (lv' := [(2, .int 1), (0, .long w)]) hx hb dX12_isKept_69 rfl hl (by decide) rfl (fun ls hl => ?_)
        refine W.widen (k := 0) (n := 0) (Nat.le_of_ble_eq_true rfl) (Nat.le_of_ble_eq_true rfl) ?_
        exact jn_1 (1) _ _ _ (by omega) hP hS (lv_sub hl [1, 0] rfl)
      · have q_63 : ¬ v_59.toInt = (0 : Int32).toInt := by have := (not_congr (ow_eq _ _)).mp c_60; omega
        have lc_64 : ¬ w = (1819239275 : Int64) := fun h9 => q_63 (by rw [ev_59, (lg_cmp_eq _ _).mpr h9])
        refine lv_lload_n hx hb dX12_isKept_24 rfl (lv_at hl 0 rfl) ?_
        refine lv_ldc2 (v := 1852137842) hx hb hown (ht _ k_201) dX12_isKept_25 ?_
        refine W.lcmp hx hb dX12_isKept_28 ?_
        refine lv_topi (fun v_65 ev_65 => ?_)
        refine lv_if_eq (tgt := 64) hx hb dX12_isKept_29 (by decide) (fun c_66 => ?_) (fun c_66 => ?_)
        · have q_67 : v_65.toInt = (0 : Int32).toInt := (ow_eq _ _).mp c_66
          have lc_68 : w = (1852137842 : Int64) := (lg_cmp_eq _ _).mp (by rw [← ev_65]; exact (ow_eq _ _).mpr (by omega))
          refine lv_iconst (v := 1) hx hb dX12_isKept_64 (by decide) ?_
          refine lv_goto (tgt := 69) hx hb dX12_isKept_65 (by decide) ?_
          refine lv_istore_n (lv' := [(2, .int 1), (0, .long w)]) hx hb dX12_isKept_69 rfl hl (by decide) rfl (fun ls hl => ?_)
          refine W.widen (k := 0) (n := 0) (Nat.le_of_ble_eq_true rfl) (Nat.le_of_ble_eq_true rfl) ?_
          exact jn_1 (1) _ _ _ (by omega) hP hS (lv_sub hl [1, 0] rfl)
        · have q_69 : ¬ v_65.toInt = (0 : Int32).toInt := by have := (not_congr (ow_eq _ _)).mp c_66; omega
          have lc_70 : ¬ w = (1852137842 : Int64) := fun h9 => q_69 (by rw [ev_65, (lg_cmp_eq _ _).mpr h9])
          refine lv_lload_n hx hb dX12_isKept_32 rfl (lv_at hl 0 rfl) ?_
          refine lv_ldc2 (v := 478627065459) hx hb hown (ht _ k_202) dX12_isKept_33 ?_
          refine W.lcmp hx hb dX12_isKept_36 ?_
          refine lv_topi (fun v_71 ev_71 => ?_)
          refine lv_if_eq (tgt := 64) hx hb dX12_isKept_37 (by decide) (fun c_72 => ?_) (fun c_72 => ?_)
          · have q_73 : v_71.toInt = (0 : Int32).toInt := (ow_eq _ _).mp c_72
            have lc_74 : w = (478627065459 : Int64) := (lg_cmp_eq _ _).mp (by rw [← ev_71]; exact (ow_eq _ _).mpr (by omega))
            refine lv_iconst (v := 1) hx hb dX12_isKept_64 (by decide) ?_
            refine lv_goto (tgt := 69) hx hb dX12_isKept_65 (by decide) ?_
            refine lv_istore_n (lv' := [(2, .int 1), (0, .long w)]) hx hb dX12_isKept_69 rfl hl (by decide) rfl (fun ls hl => ?_)
            refine W.widen (k := 0) (n := 0) (Nat.le_of_ble_eq_true rfl) (Nat.le_of_ble_eq_true rfl) ?_
            exact jn_1 (1) _ _ _ (by omega) hP hS (lv_sub hl [1, 0] rfl)
          · have q_75 : ¬ v_71.toInt = (0 : Int32).toInt := by have := (not_congr (ow_eq _ _)).mp c_72; omega
            have lc_76 : ¬ w = (478627065459 : Int64) := fun h9 => q_75 (by rw [ev_71, (lg_cmp_eq _ _).mpr h9])
            refine lv_lload_n hx hb dX12_isKept_40 rfl (lv_at hl 0 rfl) ?_
            refine lv_ldc2 (v := 495924372852) hx hb hown (ht _ k_203) dX12_isKept_41 ?_
            refine W.lcmp hx hb dX12_isKept_44 ?_
            refine lv_topi (fun v_77 ev_77 => ?_)
            refine lv_if_eq (tgt := 64) hx hb dX12_isKept_45 (by decide) (fun c_78 => ?_) (fun c_78 => ?_)
            · have q_79 : v_77.toInt = (0 : Int32).toInt := (ow_eq _ _).mp c_78
              have lc_80 : w = (495924372852 : Int64) := (lg_cmp_eq _ _).mp (by rw [← ev_77]; exact (ow_eq _ _).mpr (by omega))
              refine lv_iconst (v := 1) hx hb dX12_isKept_64 (by decide) ?_
              refine lv_goto (tgt := 69) hx hb dX12_isKept_65 (by decide) ?_
              refine lv_istore_n (lv' := [(2, .int 1), (0, .long w)]) hx hb dX12_isKept_69 rfl hl (by decide) rfl (fun ls hl => ?_)
              refine W.widen (k := 0) (n := 0) (Nat.le_of_ble_eq_true rfl) (Nat.le_of_ble_eq_true rfl) ?_
              exact jn_1 (1) _ _ _ (by omega) hP hS (lv_sub hl [1, 0] rfl)
            · have q_81 : ¬ v_77.toInt = (0 : Int32).toInt := by have := (not_congr (ow_eq _ _)).mp c_78; omega
              have lc_82 : ¬ w = (495924372852 : Int64) := fun h9 => q_81 (by rw [ev_77, (lg_cmp_eq _ _).mpr h9])
              refine lv_lload_n hx hb dX12_isKept_48 rfl (lv_at hl 0 rfl) ?_
              refine lv_ldc2 (v := 26990) hx hb hown (ht _ k_204) dX12_isKept_49 ?_
              refine W.lcmp hx hb dX12_isKept_52 ?_
              refine lv_topi (fun v_83 ev_83 => ?_)
              refine lv_if_eq (tgt := 64) hx hb dX12_isKept_53 (by decide) (fun c_84 => ?_) (fun c_84 => ?_)
              · have q_85 : v_83.toInt = (0 : Int32).toInt := (ow_eq _ _).mp c_84
                have lc_86 : w = (26990 : Int64) := (lg_cmp_eq _ _).mp (by rw [← ev_83]; exact (ow_eq _ _).mpr (by omega))
                refine lv_iconst (v := 1) hx hb dX12_isKept_64 (by decide) ?_
                refine lv_goto (tgt := 69) hx hb dX12_isKept_65 (by decide) ?_
                refine lv_istore_n (lv' := [(2, .int 1), (0, .long w)]) hx hb dX12_isKept_69 rfl hl (by decide) rfl (fun ls hl => ?_)
                refine W.widen (k := 0) (n := 0) (Nat.le_of_ble_eq_true rfl) (Nat.le_of_ble_eq_true rfl) ?_
                exact jn_1 (1) _ _ _ (by omega) hP hS (lv_sub hl [1, 0] rfl)
              · have q_87 : ¬ v_83.toInt = (0 : Int32).toInt := by have := (not_congr (ow_eq _ _)).mp c_84; omega
                have lc_88 : ¬ w = (26990 : Int64) := fun h9 => q_87 (by rw [ev_83, (lg_cmp_eq _ _).mpr h9])
                refine lv_lload_n hx hb dX12_isKept_56 rfl (lv_at hl 0 rfl) ?_
                refine lv_ldc2 (v := 108187666181747) hx hb hown (ht _ k_205) dX12_isKept_57 ?_
                refine W.lcmp hx hb dX12_isKept_60 ?_
                refine lv_topi (fun v_89 ev_89 => ?_)
                refine lv_if_ne (tgt := 68) hx hb dX12_isKept_61 (by decide) (fun c_90 => ?_) (fun c_90 => ?_)
                · have q_91 : ¬ v_89.toInt = (0 : Int32).toInt := by have := (not_congr (ow_eq _ _)).mp c_90; omega
                  have lc_92 : ¬ w = (108187666181747 : Int64) := fun h9 => q_91 (by rw [ev_89, (lg_cmp_eq _ _).mpr h9])
                  refine lv_iconst (v := 0) hx hb dX12_isKept_68 (by decide) ?_
                  refine lv_istore_n (lv' := [(2, .int 0), (0, .long w)]) hx hb dX12_isKept_69 rfl hl (by decide) rfl (fun ls hl => ?_)
                  refine W.widen (k := 0) (n := 0) (Nat.le_of_ble_eq_true rfl) (Nat.le_of_ble_eq_true rfl) ?_
                  exact jn_1 (0) _ _ _ (by omega) hP hS (lv_sub hl [1, 0] rfl)
                · have q_93 : v_89.toInt = (0 : Int32).toInt := (ow_eq _ _).mp c_90
                  have lc_94 : w = (108187666181747 : Int64) := (lg_cmp_eq _ _).mp (by rw [← ev_89]; exact (ow_eq _ _).mpr (by omega))
                  refine lv_iconst (v := 1) hx hb dX12_isKept_64 (by decide) ?_
                  refine lv_goto (tgt := 69) hx hb dX12_isKept_65 (by decide) ?_
                  refine lv_istore_n (lv' := [(2, .int 1), (0, .long w)]) hx hb dX12_isKept_69 rfl hl (by decide) rfl (fun ls hl => ?_)
                  refine W.widen (k := 0) (n := 0) (Nat.le_of_ble_eq_true rfl) (Nat.le_of_ble_eq_true rfl) ?_
                  exact jn_1 (1) _ _ _ (by omega) hP hS (lv_sub hl [1, 0] rfl)
set_option maxHeartbeats 4000000 in
set_option maxRecDepth 100000 in
theorem m_isWord (l : Launch) (G : va_G) (cy : Nat → ClassId) (sz : Nat) (mo : Nat) (h : Nat → Nat) (T : Int) (v : Nat → Int32) (nm : Int64) (f : Nat → Nat → Int32) (g : Nat → Nat → Int64) (w : Int64)  (hv : MIv T v) (hf : MIf f) (hR : RI v f) (hL : WL v f)  : Met l yX12_isWord (.code yX12_isWord cX12_isWord 3 (some .boolean) :: TBg) ({ frames := 1, cells := 0, slots := 0, locals := 64 }) (va_Pc [.ref mo, .long w] (En G cy (WMs cy mo h v nm f g) sz)) (va_Qi (fun (r : Int32) (_ : Unit) => ((r.toInt = 0 ∨ r.toInt = 1) ∧ (r.toInt = 0 ∨ (v 8).toInt = 3)) ∧ ((r.toInt = 1 → nm = w) ∧ (r.toInt = 0 → (v 8).toInt = 3 → ¬ nm = w))) (fun _ _ => True) (va_A [] sz)) 0 0 (va_A [] sz) := by
  refine Met.ofW (cc := cX12_isWord) (maxL := 3) (ret := (some .boolean)) (by decide) rfl ?_
  intro p e s m args below meth c s₁ B hml hv9
  obtain ⟨rfl, hsz, hP, hK, hD0, hN⟩ := hv9
  have hx := B.exec
  have hb := B.bytes
  have hr := B.returns
  have hts := atoms_spec (ws := .code yX12_isWord cX12_isWord 3 (some .boolean) :: TBg) B.pre
  have ht : ∀ w ∈ TBg, w.before _ s = true := fun w h => hts w (List.mem_cons_of_mem _ h)
  have hown : s.vm.findClass RX12 = some m.cls := findClass_of_methodNamed B.named
  have hlocks := B.notSynchronized
  subst hsz
  generalize hAe : va_A [] s.heap.size = A at ⊢
  have hA : ∀ q : Nat, s.heap.size ≤ q → A q := fun q h => by rw [← hAe]; exact Or.inr h
  have hS : va_S A s.heap s.heap [] := va_S.rf
  have hl := lv_entry ([.ref mo, .long w]) (n := 3) (Nat.le_of_ble_eq_true rfl)
  rw [lg_entry_eq]
  generalize (lg_sl ([.ref mo, .long w]) ++ List.replicate (3 - (lg_sl ([.ref mo, .long w])).length) Slot.unset).toArray = ls at hl ⊢
  have hl : lv_has ls 3 [(0, .ref mo), (1, .long w)] := hl
  have z0 : (0 : Int32).toInt = 0 := by decide
  have z1 : (1 : Int32).toInt = 1 := by decide
  have z2 : (3 : Int32).toInt = 3 := by decide
  refine lv_aload_n hx hb dX12_isWord_0 rfl (lv_at hl 0 rfl) ?_
  refine mg_8 hx hb ht hown hK hP dX12_isWord_1 ?_
  refine lv_iconst (v := 3) hx hb dX12_isWord_4 (by decide) ?_
  refine lv_icmp_ne (tgt := 21) hx hb dX12_isWord_5 (by decide) (fun c_1 => ?_) (fun c_1 => ?_)
  · have q_2 : ¬ (v 8).toInt = (3 : Int32).toInt := by have := (not_congr (ow_eq _ _)).mp c_1; omega
    refine lv_iconst (v := 0) hx hb dX12_isWord_21 (by decide) ?_
    refine W.widen (k := 0) (n := 0) (Nat.le_of_ble_eq_true rfl) (Nat.le_of_ble_eq_true rfl) ?_
    exact W.zret (v := 0) hx hb hr rfl (fun t ht9 hW => ⟨⟨0, (), rfl, ⟨⟨(by omega), (show (0 : Int32).toInt = 0 ∨ (v 8).toInt = 3 from by first | omega | (subst_vars; first | rfl | omega))⟩, ⟨fun h => absurd h (by decide), fun _ h => absurd h (by omega)⟩⟩, trivial⟩, hS.F ht9⟩) hS.2.2 dX12_isWord_22
  · have q_3 : (v 8).toInt = (3 : Int32).toInt := (ow_eq _ _).mp c_1
    refine lv_aload_n hx hb dX12_isWord_8 rfl (lv_at hl 0 rfl) ?_
    refine mg_10 hx hb ht hown hK hP dX12_isWord_9 ?_
    refine lv_lload_n hx hb dX12_isWord_12 rfl (lv_at hl 1 rfl) ?_
    refine W.lcmp hx hb dX12_isWord_13 ?_
    refine lv_topi (fun v_4 ev_4 => ?_)
    refine lv_if_ne (tgt := 21) hx hb dX12_isWord_14 (by decide) (fun c_5 => ?_) (fun c_5 => ?_)
    · have q_6 : ¬ v_4.toInt = (0 : Int32).toInt := by have := (not_congr (ow_eq _ _)).mp c_5; omega
      have lc_7 : ¬ nm = w := fun h9 => q_6 (by rw [ev_4, (lg_cmp_eq _ _).mpr h9])
      refine lv_iconst (v := 0) hx hb dX12_isWord_21 (by decide) ?_
      refine W.widen (k := 0) (n := 0) (Nat.le_of_ble_eq_true rfl) (Nat.le_of_ble_eq_true rfl) ?_
      exact W.zret (v := 0) hx hb hr rfl (fun t ht9 hW => ⟨⟨0, (), rfl, ⟨⟨(by omega), (show (0 : Int32).toInt = 0 ∨ (v 8).toInt = 3 from by first | omega | (subst_vars; first | rfl | omega))⟩, ⟨fun h => absurd h (by decide), fun _ _ => lc_7⟩⟩, trivial⟩, hS.F ht9⟩) hS.2.2 dX12_isWord_22
    · have q_8 : v_4.toInt = (0 : Int32).toInt := (ow_eq _ _).mp c_5
      have lc_9 : nm = w := (lg_cmp_eq _ _).mp (by rw [← ev_4]; exact (ow_eq _ _).mpr (by omega))
      refine lv_iconst (v := 1) hx hb dX12_isWord_17 (by decide) ?_
      refine lv_goto (tgt := 22) hx hb dX12_isWord_18 (by decide) ?_
      refine W.widen (k := 0) (n := 0) (Nat.le_of_ble_eq_true rfl) (Nat.le_of_ble_eq_true rfl) ?_
      exact W.zret (v := 1) hx hb hr rfl (fun t ht9 hW => ⟨⟨1, (), rfl, ⟨⟨(by omega), (show (1 : Int32).toInt = 0 ∨ (v 8).toInt = 3 from by first | omega | (subst_vars; first | rfl | omega))⟩, ⟨fun _ => lc_9, fun h => absurd h (by decide)⟩⟩, trivial⟩, hS.F ht9⟩) hS.2.2 dX12_isWord_22
set_option maxHeartbeats 4000000 in
set_option maxRecDepth 100000 in
theorem m_stands (l : Launch) (G : va_G) (cy : Nat → ClassId) (sz : Nat) (mo : Nat) (h : Nat → Nat) (T : Int) (v : Nat → Int32) (nm : Int64) (f : Nat → Nat → Int32) (g : Nat → Nat → Int64) (n : Int32)  (hv : MIv T v) (hf : MIf f) (hR : RI v f) (hL : WL v f)  : Met l yX12_stands (.code yX12_stands cX12_stands 2 (some .boolean) :: TBg) ({ frames := 2, cells := 0, slots := 0, locals := 128 }) (va_Pc [.ref mo, .int n] (En G cy (WMs cy mo h v nm f g) sz)) (va_Qi (fun (r : Int32) (_ : Unit) => (r.toInt = 0 ∨ r.toInt = 1) ∧ (r.toInt = 0 ∨ (r.toInt = 1 ∧ (v 8).toInt = 5 ∧ sgn (v 3).toInt (f 1) (v 6).toInt = n.toInt))) (fun _ _ => True) (va_A [] sz)) 0 0 (va_A [] sz) := by
  refine Met.ofW (cc := cX12_stands) (maxL := 2) (ret := (some .boolean)) (by decide) rfl ?_
  intro p e s m args below meth c s₁ B hml hv9
  obtain ⟨rfl, hsz, hP, hK, hD0, hN⟩ := hv9
  have hx := B.exec
  have hb := B.bytes
  have hr := B.returns
  have hts := atoms_spec (ws := .code yX12_stands cX12_stands 2 (some .boolean) :: TBg) B.pre
  have ht : ∀ w ∈ TBg, w.before _ s = true := fun w h => hts w (List.mem_cons_of_mem _ h)
  have hown : s.vm.findClass RX12 = some m.cls := findClass_of_methodNamed B.named
  have hlocks := B.notSynchronized
  subst hsz
  generalize hAe : va_A [] s.heap.size = A at ⊢
  have hA : ∀ q : Nat, s.heap.size ≤ q → A q := fun q h => by rw [← hAe]; exact Or.inr h
  have hS : va_S A s.heap s.heap [] := va_S.rf
  have hl := lv_entry ([.ref mo, .int n]) (n := 2) (Nat.le_of_ble_eq_true rfl)
  rw [lg_entry_eq]
  generalize (lg_sl ([.ref mo, .int n]) ++ List.replicate (2 - (lg_sl ([.ref mo, .int n])).length) Slot.unset).toArray = ls at hl ⊢
  have hl : lv_has ls 2 [(0, .ref mo), (1, .int n)] := hl
  have z0 : (0 : Int32).toInt = 0 := by decide
  have z1 : (1 : Int32).toInt = 1 := by decide
  have z2 : (5 : Int32).toInt = 5 := by decide
  refine lv_aload_n hx hb dX12_stands_0 rfl (lv_at hl 0 rfl) ?_
  refine mg_8 hx hb ht hown hK hP dX12_stands_1 ?_
  refine lv_iconst (v := 5) hx hb dX12_stands_4 (by decide) ?_
  refine lv_icmp_ne (tgt := 24) hx hb dX12_stands_5 (by decide) (fun c_1 => ?_) (fun c_1 => ?_)
  · have q_2 : ¬ (v 8).toInt = (5 : Int32).toInt := by have := (not_congr (ow_eq _ _)).mp c_1; omega
    refine lv_iconst (v := 0) hx hb dX12_stands_24 (by decide) ?_
    refine W.widen (k := 0) (n := 0) (Nat.le_of_ble_eq_true rfl) (Nat.le_of_ble_eq_true rfl) ?_
    exact W.zret (v := 0) hx hb hr rfl (fun t ht9 hW => ⟨⟨0, (), rfl, ⟨(by omega), (show (0 : Int32).toInt = 0 ∨ ((0 : Int32).toInt = 1 ∧ (v 8).toInt = 5 ∧ sgn (v 3).toInt (f 1) (v 6).toInt = n.toInt) from by first | omega | (subst_vars; first | rfl | omega))⟩, trivial⟩, hS.F ht9⟩) hS.2.2 dX12_stands_25
  · have q_3 : (v 8).toInt = (5 : Int32).toInt := (ow_eq _ _).mp c_1
    refine lv_aload_n hx hb dX12_stands_8 rfl (lv_at hl 0 rfl) ?_
    refine lv_aload_n hx hb dX12_stands_9 rfl (lv_at hl 0 rfl) ?_
    refine mg_6 hx hb ht hown hK hP dX12_stands_10 ?_
    have q_4 : 0 ≤ (v 6).toInt ∧ (v 6).toInt ≤ 1700 := hv 6
    have hFc := fr_new hS hA
    refine va_calli (va_runV (As := [.int (v 6)]) (rest := []) ⟨hx, hb, hml, hown, ht⟩ (m_sign l G cy _ mo h T v nm f g (v 6)  hv hf hR hL (by omega)) (cwV 1 ht (gv k_207 k_208 k_209 k_61 k_206) rfl rfl rfl (by decide +kernel) ⟨Nat.le_of_ble_eq_true rfl, Nat.le_of_ble_eq_true rfl⟩) ⟨En.blind, va_recv hK hP (ci := 12) (q0 := 0) rfl rfl, fun U hU hW => ⟨rfl, En.of hU hW hP hK hD0 hN⟩⟩ rfl rfl hl.1 rfl (lv_room (Nat.le_of_ble_eq_true rfl)) dX12_stands_13 ⟨Nat.le_of_ble_eq_true rfl, Nat.le_of_ble_eq_true rfl⟩) hS (fun q _ h => hFc q h) hFc (fun r_u_5 u_5 t9 H locs ht9 hvm hw hB hz1 hk1 hS => ?_)
    have hP := fr_keep hP hk1
    have wu_5 := hw
    clear hFc hk1 hz1 hB hw
    refine lv_iload_n hx hb dX12_stands_16 rfl (lv_at hl 1 rfl) ?_
    refine lv_icmp_ne (tgt := 24) hx hb dX12_stands_17 (by decide) (fun c_6 => ?_) (fun c_6 => ?_)
    · have q_7 : ¬ r_u_5.toInt = n.toInt := by have := (not_congr (ow_eq _ _)).mp c_6; omega
      refine lv_iconst (v := 0) hx hb dX12_stands_24 (by decide) ?_
      refine W.widen (k := 0) (n := 0) (Nat.le_of_ble_eq_true rfl) (Nat.le_of_ble_eq_true rfl) ?_
      exact W.zret (v := 0) hx hb hr rfl (fun t ht9 hW => ⟨⟨0, (), rfl, ⟨(by omega), (show (0 : Int32).toInt = 0 ∨ ((0 : Int32).toInt = 1 ∧ (v 8).toInt = 5 ∧ sgn (v 3).toInt (f 1) (v 6).toInt = n.toInt) from by first | omega | (subst_vars; first | rfl | omega))⟩, trivial⟩, hS.F ht9⟩) hS.2.2 dX12_stands_25
    · have q_8 : r_u_5.toInt = n.toInt := (ow_eq _ _).mp c_6
      refine lv_iconst (v := 1) hx hb dX12_stands_20 (by decide) ?_
      refine lv_goto (tgt := 25) hx hb dX12_stands_21 (by decide) ?_
      refine W.widen (k := 0) (n := 0) (Nat.le_of_ble_eq_true rfl) (Nat.le_of_ble_eq_true rfl) ?_
      exact W.zret (v := 1) hx hb hr rfl (fun t ht9 hW => ⟨⟨1, (), rfl, ⟨(by omega), (show (1 : Int32).toInt = 0 ∨ ((1 : Int32).toInt = 1 ∧ (v 8).toInt = 5 ∧ sgn (v 3).toInt (f 1) (v 6).toInt = n.toInt) from by first | omega | (subst_vars; first | rfl | omega))⟩, trivial⟩, hS.F ht9⟩) hS.2.2 dX12_stands_25
set_option maxHeartbeats 4000000 in
set_option maxRecDepth 100000 in
theorem m_misplaced (l : Launch) (G : va_G) (cy : Nat → ClassId) (sz : Nat) (mo : Nat) (h : Nat → Nat) (T : Int) (v : Nat → Int32) (nm : Int64) (f : Nat → Nat → Int32) (g : Nat → Nat → Int64)   (hv : MIv T v) (hf : MIf f) (hR : RI v f) (hL : WL v f)  : Met l yX12_misplaced (.code yX12_misplaced cX12_misplaced 1 none :: TBg) ({ frames := 2, cells := 0, slots := 0, locals := 128 }) (va_Pc [.ref mo] (En G cy (WMs cy mo h v nm f g) sz)) (va_Qv (fun (u : (Nat → Int32) × Int64) => MIv T u.1 ∧ FV [4, 5] v u.1 ∧ ((1 ≤ (u.1 4).toInt))) (fun u t => Ex G (va_A (WMs cy mo h v nm f g) sz) (WMs cy mo h u.1 u.2 f g) t) (va_A (WMs cy mo h v nm f g) sz)) 0 0 (va_A (WMs cy mo h v nm f g) sz) := by
  refine Met.ofW (cc := cX12_misplaced) (maxL := 1) (ret := none) (by decide) rfl ?_
  intro p e s m args below meth c s₁ B hml hv9
  obtain ⟨rfl, hsz, hP, hK, hD0, hN⟩ := hv9
  have hx := B.exec
  have hb := B.bytes
  have hr := B.returns
  have hts := atoms_spec (ws := .code yX12_misplaced cX12_misplaced 1 none :: TBg) B.pre
  have ht : ∀ w ∈ TBg, w.before _ s = true := fun w h => hts w (List.mem_cons_of_mem _ h)
  have hown : s.vm.findClass RX12 = some m.cls := findClass_of_methodNamed B.named
  have hlocks := B.notSynchronized
  subst hsz
  have hD := hD0.self (sz := s.heap.size)
  generalize hAe : va_A (WMs cy mo h v nm f g) s.heap.size = A at hD ⊢
  have hA : ∀ q : Nat, s.heap.size ≤ q → A q := fun q h => by rw [← hAe]; exact Or.inr h
  have hS : va_S A s.heap s.heap [] := va_S.rf
  have hl := lv_entry ([.ref mo]) (n := 1) (Nat.le_of_ble_eq_true rfl)
  rw [lg_entry_eq]
  generalize (lg_sl ([.ref mo]) ++ List.replicate (1 - (lg_sl ([.ref mo])).length) Slot.unset).toArray = ls at hl ⊢
  have hl : lv_has ls 1 [(0, .ref mo)] := hl
  have z0 : (1 : Int32).toInt = 1 := by decide
  have z1 : (2 : Int32).toInt = 2 := by decide
  have hf_0 := hf
  have hV_0 : FV [4, 5] v v := FV.rf
  refine lv_aload_n hx hb dX12_misplaced_0 rfl (lv_at hl 0 rfl) ?_
  refine lv_aload_n hx hb dX12_misplaced_1 rfl (lv_at hl 0 rfl) ?_
  refine mg_8 hx hb ht hown hK hP dX12_misplaced_2 ?_
  refine lv_iconst (v := 1) hx hb dX12_misplaced_5 (by decide) ?_
  refine lv_icmp_ne (tgt := 13) hx hb dX12_misplaced_6 (by decide) (fun c_1 => ?_) (fun c_1 => ?_)
  · have q_2 : ¬ (v 8).toInt = (1 : Int32).toInt := by have := (not_congr (ow_eq _ _)).mp c_1; omega
    refine lv_iconst (v := 2) hx hb dX12_misplaced_13 (by decide) ?_
    refine lv_aload_n hx hb dX12_misplaced_14 rfl (lv_at hl 0 rfl) ?_
    refine mg_6 hx hb ht hown hK hP dX12_misplaced_15 ?_
    have q_3 : 0 ≤ (v 6).toInt ∧ (v 6).toInt ≤ 1700 := hv 6
    have hFc := fr_free hD hS hA
    refine va_callv (va_runV (As := [.int 2, .int (v 6)]) (rest := []) ⟨hx, hb, hml, hown, ht⟩ (m_fails l G cy _ mo h T v nm f g (2) (v 6)  hv hf hR hL (by omega)) (cwV 2 ht (gv k_211 k_212 k_213 k_61 k_210) rfl rfl rfl (by decide +kernel) ⟨Nat.le_of_ble_eq_true rfl, Nat.le_of_ble_eq_true rfl⟩) ⟨En.blind, va_recv hK hP (ci := 12) (q0 := 0) rfl rfl, fun U hU hW => ⟨rfl, En.of hU hW hP hK hD hN⟩⟩ rfl rfl hl.1 rfl (lv_room (Nat.le_of_ble_eq_true rfl)) dX12_misplaced_18 ⟨Nat.le_of_ble_eq_true rfl, Nat.le_of_ble_eq_true rfl⟩) hS (fun q _ h => hFc q h) hFc (fun u_4 t9 H locs ht9 hvm hw hB hz1 hk1 hS => ?_)
    obtain ⟨v4, nm4⟩ := u_4
    obtain ⟨hP1, hD1⟩ := hB
    rw [ht9] at hP1
    obtain ⟨hv, xu_4V, wu_4⟩ := hw
    dsimp only at hv xu_4V wu_4
    have hP : va_P G vwCl (WMs cy mo h v4 nm4 f g) H := hP1
    have hD : va_D A (WMs cy mo h v4 nm4 f g) := hD1.weaken (fun _ _ _ h => hFc _ h)
    have hR : RI v4 f := RI.fv hR xu_4V (by decide)
    have hL : WL v4 f := WL.fv hL xu_4V (by decide) (by decide)
    have hV_0 := FV.tr hV_0 xu_4V (by decide)
    clear hFc hk1 hz1 hP1 hD1
    have wu_4 : (1 ≤ (v4 4).toInt) := wu_4
    refine W.widen (k := 0) (n := 0) (Nat.le_of_ble_eq_true rfl) (Nat.le_of_ble_eq_true rfl) ?_
    exact W.vret hx hb hr (fun t ht9 hW => ⟨⟨(v4, nm4), rfl, ⟨hv, hV_0, (show 1 ≤ (v4 4).toInt from by first | omega | (subst_vars; first | rfl | omega))⟩, ⟨by rw [ht9]; exact hP, hD⟩⟩, hS.F ht9⟩) hS.2.2 dX12_misplaced_21
  · have q_5 : (v 8).toInt = (1 : Int32).toInt := (ow_eq _ _).mp c_1
    refine lv_iconst (v := 1) hx hb dX12_misplaced_9 (by decide) ?_
    refine lv_goto (tgt := 14) hx hb dX12_misplaced_10 (by decide) ?_
    refine lv_aload_n hx hb dX12_misplaced_14 rfl (lv_at hl 0 rfl) ?_
    refine mg_6 hx hb ht hown hK hP dX12_misplaced_15 ?_
    have q_6 : 0 ≤ (v 6).toInt ∧ (v 6).toInt ≤ 1700 := hv 6
    have hFc := fr_free hD hS hA
    refine va_callv (va_runV (As := [.int 1, .int (v 6)]) (rest := []) ⟨hx, hb, hml, hown, ht⟩ (m_fails l G cy _ mo h T v nm f g (1) (v 6)  hv hf hR hL (by omega)) (cwV 2 ht (gv k_211 k_212 k_213 k_61 k_210) rfl rfl rfl (by decide +kernel) ⟨Nat.le_of_ble_eq_true rfl, Nat.le_of_ble_eq_true rfl⟩) ⟨En.blind, va_recv hK hP (ci := 12) (q0 := 0) rfl rfl, fun U hU hW => ⟨rfl, En.of hU hW hP hK hD hN⟩⟩ rfl rfl hl.1 rfl (lv_room (Nat.le_of_ble_eq_true rfl)) dX12_misplaced_18 ⟨Nat.le_of_ble_eq_true rfl, Nat.le_of_ble_eq_true rfl⟩) hS (fun q _ h => hFc q h) hFc (fun u_7 t9 H locs ht9 hvm hw hB hz1 hk1 hS => ?_)
    obtain ⟨v7, nm7⟩ := u_7
    obtain ⟨hP1, hD1⟩ := hB
    rw [ht9] at hP1
    obtain ⟨hv, xu_7V, wu_7⟩ := hw
    dsimp only at hv xu_7V wu_7
    have hP : va_P G vwCl (WMs cy mo h v7 nm7 f g) H := hP1
    have hD : va_D A (WMs cy mo h v7 nm7 f g) := hD1.weaken (fun _ _ _ h => hFc _ h)
    have hR : RI v7 f := RI.fv hR xu_7V (by decide)
    have hL : WL v7 f := WL.fv hL xu_7V (by decide) (by decide)
    have hV_0 := FV.tr hV_0 xu_7V (by decide)
    clear hFc hk1 hz1 hP1 hD1
    have wu_7 : (1 ≤ (v7 4).toInt) := wu_7
    refine W.widen (k := 0) (n := 0) (Nat.le_of_ble_eq_true rfl) (Nat.le_of_ble_eq_true rfl) ?_
    exact W.vret hx hb hr (fun t ht9 hW => ⟨⟨(v7, nm7), rfl, ⟨hv, hV_0, (show 1 ≤ (v7 4).toInt from by first | omega | (subst_vars; first | rfl | omega))⟩, ⟨by rw [ht9]; exact hP, hD⟩⟩, hS.F ht9⟩) hS.2.2 dX12_misplaced_21
set_option maxHeartbeats 4000000 in
set_option maxRecDepth 100000 in
theorem m_goOn (l : Launch) (G : va_G) (cy : Nat → ClassId) (sz : Nat) (mo : Nat) (h : Nat → Nat) (T : Int) (v : Nat → Int32) (nm : Int64) (f : Nat → Nat → Int32) (g : Nat → Nat → Int64)   (hv : MIv T v) (hf : MIf f) (hR : RI v f) (hL : WL v f) (he : (v 7).toInt ≤ (v 3).toInt) : Met l yX12_goOn (.code yX12_goOn cX12_goOn 3 none :: TBg) ({ frames := 2, cells := 0, slots := 0, locals := 128 }) (va_Pc [.ref mo] (En G cy (WMs cy mo h v nm f g) sz)) (va_Qv (fun (u : (Nat → Int32) × Int64) => MIv T u.1 ∧ FV [6, 7, 8, 9] v u.1 ∧ (((u.1 7).toInt ≤ (v 3).toInt ∧ (((u.1 8).toInt = 0 ∧ (u.1 7).toInt = (v 3).toInt) ∨ ((u.1 8).toInt ≠ 0 ∧ (v 7).toInt < (u.1 7).toInt)))) ∧ (0 ≤ mz (v 3).toInt (u.1 7).toInt (u.1 8).toInt ∧ mz (v 3).toInt (u.1 7).toInt (u.1 8).toInt ≤ mz (v 3).toInt (v 7).toInt (v 8).toInt ∧ ((v 8).toInt = 0 ∨ mz (v 3).toInt (u.1 7).toInt (u.1 8).toInt < mz (v 3).toInt (v 7).toInt (v 8).toInt))) (fun u t => Ex G (va_A (WMs cy mo h v nm f g) sz) (WMs cy mo h u.1 u.2 f g) t) (va_A (WMs cy mo h v nm f g) sz)) 0 0 (va_A (WMs cy mo h v nm f g) sz) := by
  refine Met.ofW (cc := cX12_goOn) (maxL := 3) (ret := none) (by decide) rfl ?_
  intro p e s m args below meth c s₁ B hml hv9
  obtain ⟨rfl, hsz, hP, hK, hD0, hN⟩ := hv9
  have hx := B.exec
  have hb := B.bytes
  have hr := B.returns
  have hts := atoms_spec (ws := .code yX12_goOn cX12_goOn 3 none :: TBg) B.pre
  have ht : ∀ w ∈ TBg, w.before _ s = true := fun w h => hts w (List.mem_cons_of_mem _ h)
  have hown : s.vm.findClass RX12 = some m.cls := findClass_of_methodNamed B.named
  have hlocks := B.notSynchronized
  subst hsz
  have hD := hD0.self (sz := s.heap.size)
  generalize hAe : va_A (WMs cy mo h v nm f g) s.heap.size = A at hD ⊢
  have hA : ∀ q : Nat, s.heap.size ≤ q → A q := fun q h => by rw [← hAe]; exact Or.inr h
  have hS : va_S A s.heap s.heap [] := va_S.rf
  have hl := lv_entry ([.ref mo]) (n := 3) (Nat.le_of_ble_eq_true rfl)
  rw [lg_entry_eq]
  generalize (lg_sl ([.ref mo]) ++ List.replicate (3 - (lg_sl ([.ref mo])).length) Slot.unset).toArray = ls at hl ⊢
  have hl : lv_has ls 3 [(0, .ref mo)] := hl
  have z0 : (0 : Int32).toInt = 0 := by decide
  have z1 : (1 : Int32).toInt = 1 := by decide
  have z2 : (2 : Int32).toInt = 2 := by decide
  have z3 : (3 : Int32).toInt = 3 := by decide
  have z4 : (4 : Int32).toInt = 4 := by decide
  have z5 : (5 : Int32).toInt = 5 := by decide
  have z6 : (8 : Int32).toInt = 8 := by decide
  have z7 : (10 : Int32).toInt = 10 := by decide
  have z8 : (32 : Int32).toInt = 32 := by decide
  have hf_0 := hf
  have hV_0 : FV [6, 7, 8, 9] v v := FV.rf
  have rg3 : 0 ≤ (v 3).toInt ∧ (v 3).toInt ≤ 1700 := hv 3
  have rg7 : 0 ≤ (v 7).toInt ∧ (v 7).toInt ≤ 1701 := hv 7
  refine W.widen (k := 0) (n := 0) (Nat.le_of_ble_eq_true rfl) (Nat.le_of_ble_eq_true rfl) ?_
  have jn_1 : ∀ (v1 : Nat → Int32) (nm1 : Int64) (H : Heap) (locs : List Loc) (ls : Array Slot), MIv T v1 → FV [6] v v1 → ((v 7).toInt ≤ (v1 6).toInt ∧ (v1 6).toInt ≤ (v 3).toInt) → va_P G vwCl (WMs cy mo h v1 nm1 f g) H → va_D A (WMs cy mo h v1 nm1 f g) → va_S A s.heap H locs → lv_has ls 3 [(0, .ref mo)] → W p l e (headSpec (.code yX12_goOn cX12_goOn 3 none :: TBg) ({ frames := 2, cells := 0, slots := 0, locals := 128 })).room s m ([.ref mo] : List Value).toArray below meth c H locs 0 0 (MQ below (va_Qv (fun (u : (Nat → Int32) × Int64) => MIv T u.1 ∧ FV [6, 7, 8, 9] v u.1 ∧ (((u.1 7).toInt ≤ (v 3).toInt ∧ (((u.1 8).toInt = 0 ∧ (u.1 7).toInt = (v 3).toInt) ∨ ((u.1 8).toInt ≠ 0 ∧ (v 7).toInt < (u.1 7).toInt)))) ∧ (0 ≤ mz (v 3).toInt (u.1 7).toInt (u.1 8).toInt ∧ mz (v 3).toInt (u.1 7).toInt (u.1 8).toInt ≤ mz (v 3).toInt (v 7).toInt (v 8).toInt ∧ ((v 8).toInt = 0 ∨ mz (v 3).toInt (u.1 7).toInt (u.1 8).toInt < mz (v 3).toInt (v 7).toInt (v 8).toInt))) (fun u t => Ex G A (WMs cy mo h u.1 u.2 f g) t) A) ([.ref mo] : List Value).toArray s 0 0 A) (F0 m 58 ls []) := by
    intro v1 nm1 H locs ls hv hV_1 qf1_0 hP hD hS hl
    have hR : RI v1 f := RI.fv hR hV_1 (by decide)
    have hL : WL v1 f := WL.fv hL hV_1 (by decide) (by decide)
    have hV_0 := FV.tr hV_0 hV_1 (by decide)
    refine lv_aload_n hx hb dX12_goOn_58 rfl (lv_at hl 0 rfl) ?_
    refine lv_aload_n hx hb dX12_goOn_59 rfl (lv_at hl 0 rfl) ?_
    refine mg_6 hx hb ht hown hK hP dX12_goOn_60 ?_
    have q_2 : 0 ≤ (v1 6).toInt ∧ (v1 6).toInt ≤ 1700 := hv 6
    have hFc := fr_new hS hA
    refine va_calli (va_runV (As := [.int (v1 6)]) (rest := []) ⟨hx, hb, hml, hown, ht⟩ (m_sign l G cy _ mo h T v1 nm1 f g (v1 6)  hv hf hR hL (by omega)) (cwV 1 ht (gv k_207 k_208 k_209 k_61 k_206) rfl rfl rfl (by decide +kernel) ⟨Nat.le_of_ble_eq_true rfl, Nat.le_of_ble_eq_true rfl⟩) ⟨En.blind, va_recv hK hP (ci := 12) (q0 := 0) rfl rfl, fun U hU hW => ⟨rfl, En.of hU hW hP hK hD hN⟩⟩ rfl rfl hl.1 rfl (lv_room (Nat.le_of_ble_eq_true rfl)) dX12_goOn_63 ⟨Nat.le_of_ble_eq_true rfl, Nat.le_of_ble_eq_true rfl⟩) hS (fun q _ h => hFc q h) hFc (fun r_u_3 u_3 t9 H locs ht9 hvm hw hB hz1 hk1 hS => ?_)
    have hP := fr_keep hP hk1
    have wu_3 := hw
    clear hFc hk1 hz1 hB hw
    have wu_3 : (0 ≤ r_u_3.toInt ∧ r_u_3.toInt ≤ 255) ∧ (r_u_3.toInt = sgn (v 3).toInt (f 1) (v1 6).toInt ∧ (r_u_3.toInt = 0 ∨ (v1 6).toInt < (v 3).toInt)) := by
      have h9 : (0 ≤ r_u_3.toInt ∧ r_u_3.toInt ≤ 255) ∧ (r_u_3.toInt = sgn (v1 3).toInt (f 1) (v1 6).toInt ∧ (r_u_3.toInt = 0 ∨ (v1 6).toInt < (v1 3).toInt)) := wu_3
      rw [(show v1 3 = (v 3) from (hV_1 3 (by decide)))] at h9
      exact h9
    refine lv_istore_n (lv' := [(1, .int r_u_3), (0, .ref mo)]) hx hb dX12_goOn_66 rfl hl (by decide) rfl (fun ls hl => ?_)
    refine lv_aload_n hx hb dX12_goOn_67 rfl (lv_at hl 1 rfl) ?_
    refine lv_aload_n hx hb dX12_goOn_68 rfl (lv_at hl 1 rfl) ?_
    refine mg_6 hx hb ht hown hK hP dX12_goOn_69 ?_
    refine lv_iconst (v := 1) hx hb dX12_goOn_72 (by decide) ?_
    refine lv_iadd hx hb dX12_goOn_73 ?_
    refine lv_topi (fun v_4 ev_4 => ?_)
    have q_5 : v_4.toInt = (v1 6).toInt + (1 : Int32).toInt := ow_add ev_4 (by omega) (by omega)
    refine mp_7 hx hb ht hown hK hP hD hS dX12_goOn_74 (fun H locs hP hD hS => ?_)
    have hv := MIv.up 7 hv (show 0 ≤ v_4.toInt ∧ v_4.toInt ≤ 1701 from by omega)
    have hL : WL (va_up v1 7 v_4) f := WL.upv 7 hL (by decide)
    have hR : RI (va_up v1 7 v_4) f := RI.upv 7 hR (by decide)
    have hV_0 := FV.up hV_0 7 v_4 (by decide)
    refine lv_aload_n hx hb dX12_goOn_77 rfl (lv_at hl 1 rfl) ?_
    refine mg_6 hx hb ht hown hK hP dX12_goOn_78 ?_
    refine ow_top (v1 6) rfl ?_
    refine lv_aload_n hx hb dX12_goOn_81 rfl (lv_at hl 1 rfl) ?_
    refine mg_3 hx hb ht hown hK hP dX12_goOn_82 ?_
    refine ow_top (v 3) (hV_1 3 (by decide)) ?_
    have q_6 : 0 ≤ (v 3).toInt ∧ (v 3).toInt ≤ 1700 := by have h9 : (va_up v1 7 v_4) 3 = (v 3) := (hV_1 3 (by decide)); rw [← h9]; exact hv 3
    refine lv_icmp_lt (tgt := 112) hx hb dX12_goOn_85 (by decide) (fun c_7 => ?_) (fun c_7 => ?_)
    · have q_8 : (v1 6).toInt < (v 3).toInt := (ow_lt _ _).mp c_7
      refine lv_iload_n hx hb dX12_goOn_112 rfl (lv_at hl 0 rfl) ?_
      have hFc := fr_new hS hA
      refine va_calli (va_runS (As := [.int r_u_3]) (rest := []) ⟨hx, hb, hml, hown, ht⟩ (m_isLetter l G cy _  r_u_3  ) (va_cwS 1 ht (gs k_131 k_132 k_61 k_130) rfl rfl rfl (by decide +kernel) ⟨Nat.le_of_ble_eq_true rfl, Nat.le_of_ble_eq_true rfl⟩) ⟨En.blind, fun U hU hW => ⟨rfl, En.of hU hW (va_P0 (H := _)) hK va_D0 hN⟩⟩ rfl rfl hl.1 rfl (lv_room (Nat.le_of_ble_eq_true rfl)) dX12_goOn_113 ⟨Nat.le_of_ble_eq_true rfl, Nat.le_of_ble_eq_true rfl⟩) hS (fun q _ h => hFc q h) hFc (fun r_u_9 u_9 t9 H locs ht9 hvm hw hB hz1 hk1 hS => ?_)
      have hP := fr_keep hP hk1
      have wu_9 := hw
      clear hFc hk1 hz1 hB hw
      refine lv_if_eq (tgt := 239) hx hb dX12_goOn_116 (by decide) (fun c_10 => ?_) (fun c_10 => ?_)
      · have q_11 : r_u_9.toInt = (0 : Int32).toInt := (ow_eq _ _).mp c_10
        refine lv_iload_n hx hb dX12_goOn_239 rfl (lv_at hl 0 rfl) ?_
        have hFc := fr_new hS hA
        refine va_calli (va_runS (As := [.int r_u_3]) (rest := []) ⟨hx, hb, hml, hown, ht⟩ (m_isDigit l G cy _  r_u_3  ) (va_cwS 1 ht (gs k_215 k_216 k_61 k_214) rfl rfl rfl (by decide +kernel) ⟨Nat.le_of_ble_eq_true rfl, Nat.le_of_ble_eq_true rfl⟩) ⟨En.blind, fun U hU hW => ⟨rfl, En.of hU hW (va_P0 (H := _)) hK va_D0 hN⟩⟩ rfl rfl hl.1 rfl (lv_room (Nat.le_of_ble_eq_true rfl)) dX12_goOn_240 ⟨Nat.le_of_ble_eq_true rfl, Nat.le_of_ble_eq_true rfl⟩) hS (fun q _ h => hFc q h) hFc (fun r_u_12 u_12 t9 H locs ht9 hvm hw hB hz1 hk1 hS => ?_)
        have hP := fr_keep hP hk1
        have wu_12 := hw
        clear hFc hk1 hz1 hB hw
        refine lv_if_eq (tgt := 361) hx hb dX12_goOn_243 (by decide) (fun c_13 => ?_) (fun c_13 => ?_)
        · have q_14 : r_u_12.toInt = (0 : Int32).toInt := (ow_eq _ _).mp c_13
          refine lv_aload_n hx hb dX12_goOn_361 rfl (lv_at hl 1 rfl) ?_
          refine lv_iload_n hx hb dX12_goOn_362 rfl (lv_at hl 0 rfl) ?_
          have hFc := fr_new hS hA
          refine va_calli (va_runS (As := [.int r_u_3]) (rest := [.ref mo]) ⟨hx, hb, hml, hown, ht⟩ (m_isSign l G cy _  r_u_3  ) (va_cwS 1 ht (gs k_218 k_219 k_61 k_217) rfl rfl rfl (by decide +kernel) ⟨Nat.le_of_ble_eq_true rfl, Nat.le_of_ble_eq_true rfl⟩) ⟨En.blind, fun U hU hW => ⟨rfl, En.of hU hW (va_P0 (H := _)) hK va_D0 hN⟩⟩ rfl rfl hl.1 rfl (lv_room (Nat.le_of_ble_eq_true rfl)) dX12_goOn_363 ⟨Nat.le_of_ble_eq_true rfl, Nat.le_of_ble_eq_true rfl⟩) hS (fun q _ h => hFc q h) hFc (fun r_u_15 u_15 t9 H locs ht9 hvm hw hB hz1 hk1 hS => ?_)
          have hP := fr_keep hP hk1
          have wu_15 := hw
          clear hFc hk1 hz1 hB hw
          refine lv_if_eq (tgt := 373) hx hb dX12_goOn_366 (by decide) (fun c_16 => ?_) (fun c_16 => ?_)
          · have q_17 : r_u_15.toInt = (0 : Int32).toInt := (ow_eq _ _).mp c_16
            refine lv_iconst (v := 1) hx hb dX12_goOn_373 (by decide) ?_
            refine mp_8 hx hb ht hown hK hP hD hS dX12_goOn_374 (fun H locs hP hD hS => ?_)
            have hv := MIv.up 8 hv (ow_any (1 : Int32))
            have hL : WL (va_up (va_up v1 7 v_4) 8 1) f := WL.upv 8 hL (by decide)
            have hR : RI (va_up (va_up v1 7 v_4) 8 1) f := RI.upv 8 hR (by decide)
            have hV_0 := FV.up hV_0 8 (1) (by decide)
            refine W.widen (k := 0) (n := 0) (Nat.le_of_ble_eq_true rfl) (Nat.le_of_ble_eq_true rfl) ?_
            exact W.vret hx hb hr (fun t ht9 hW => ⟨⟨((va_up (va_up v1 7 v_4) 8 1), nm1), rfl, ⟨hv, hV_0, (show v_4.toInt ≤ (v 3).toInt ∧ (((1 : Int32).toInt = 0 ∧ v_4.toInt = (v 3).toInt) ∨ ((1 : Int32).toInt ≠ 0 ∧ (v 7).toInt < v_4.toInt)) from by first | omega | (subst_vars; first | rfl | omega)), (mz_go he (show v_4.toInt ≤ (v 3).toInt from by omega) (show ((1 : Int32).toInt = 0 ∧ v_4.toInt = (v 3).toInt) ∨ ((1 : Int32).toInt ≠ 0 ∧ (v 7).toInt < v_4.toInt) from by omega))⟩, ⟨by rw [ht9]; exact hP, hD⟩⟩, hS.F ht9⟩) hS.2.2 dX12_goOn_377
          · have q_18 : ¬ r_u_15.toInt = (0 : Int32).toInt := by have := (not_congr (ow_eq _ _)).mp c_16; omega
            refine lv_iconst (v := 5) hx hb dX12_goOn_369 (by decide) ?_
            refine lv_goto (tgt := 374) hx hb dX12_goOn_370 (by decide) ?_
            refine mp_8 hx hb ht hown hK hP hD hS dX12_goOn_374 (fun H locs hP hD hS => ?_)
            have hv := MIv.up 8 hv (ow_any (5 : Int32))
            have hL : WL (va_up (va_up v1 7 v_4) 8 5) f := WL.upv 8 hL (by decide)
            have hR : RI (va_up (va_up v1 7 v_4) 8 5) f := RI.upv 8 hR (by decide)
            have hV_0 := FV.up hV_0 8 (5) (by decide)
            refine W.widen (k := 0) (n := 0) (Nat.le_of_ble_eq_true rfl) (Nat.le_of_ble_eq_true rfl) ?_
            exact W.vret hx hb hr (fun t ht9 hW => ⟨⟨((va_up (va_up v1 7 v_4) 8 5), nm1), rfl, ⟨hv, hV_0, (show v_4.toInt ≤ (v 3).toInt ∧ (((5 : Int32).toInt = 0 ∧ v_4.toInt = (v 3).toInt) ∨ ((5 : Int32).toInt ≠ 0 ∧ (v 7).toInt < v_4.toInt)) from by first | omega | (subst_vars; first | rfl | omega)), (mz_go he (show v_4.toInt ≤ (v 3).toInt from by omega) (show ((5 : Int32).toInt = 0 ∧ v_4.toInt = (v 3).toInt) ∨ ((5 : Int32).toInt ≠ 0 ∧ (v 7).toInt < v_4.toInt) from by omega))⟩, ⟨by rw [ht9]; exact hP, hD⟩⟩, hS.F ht9⟩) hS.2.2 dX12_goOn_377
        · have q_19 : ¬ r_u_12.toInt = (0 : Int32).toInt := by have := (not_congr (ow_eq _ _)).mp c_13; omega
          refine lv_aload_n hx hb dX12_goOn_246 rfl (lv_at hl 1 rfl) ?_
          refine lv_iconst (v := 0) hx hb dX12_goOn_247 (by decide) ?_
          refine mp_9 hx hb ht hown hK hP hD hS dX12_goOn_248 (fun H locs hP hD hS => ?_)
          have hv := MIv.up 9 hv (ow_any (0 : Int32))
          have hL : WL (va_up (va_up v1 7 v_4) 9 0) f := WL.upv 9 hL (by decide)
          have hR : RI (va_up (va_up v1 7 v_4) 9 0) f := RI.upv 9 hR (by decide)
          have hV_0 := FV.up hV_0 9 (0) (by decide)
          refine lv_aload_n hx hb dX12_goOn_251 rfl (lv_at hl 1 rfl) ?_
          refine lv_aload_n hx hb dX12_goOn_252 rfl (lv_at hl 1 rfl) ?_
          refine mg_6 hx hb ht hown hK hP dX12_goOn_253 ?_
          refine ow_top (v1 6) rfl ?_
          refine mp_7 hx hb ht hown hK hP hD hS dX12_goOn_256 (fun H locs hP hD hS => ?_)
          have hv := MIv.up 7 hv (show 0 ≤ (v1 6).toInt ∧ (v1 6).toInt ≤ 1701 from by omega)
          have hL : WL (va_up (va_up (va_up v1 7 v_4) 9 0) 7 (v1 6)) f := WL.upv 7 hL (by decide)
          have hR : RI (va_up (va_up (va_up v1 7 v_4) 9 0) 7 (v1 6)) f := RI.upv 7 hR (by decide)
          have hV_0 := FV.up hV_0 7 (v1 6) (by decide)
          refine W.widen (k := 0) (n := 0) (Nat.le_of_ble_eq_true rfl) (Nat.le_of_ble_eq_true rfl) ?_
          have lp_20 : ∀ (N_20 : Nat) (v20 : Nat → Int32) (nm20 : Int64) (H : Heap) (locs : List Loc) (ls : Array Slot), MIv T v20 → FV [7, 9] (va_up (va_up (va_up v1 7 v_4) 9 0) 7 (v1 6)) v20 → ((v1 6).toInt ≤ (v20 7).toInt ∧ (v20 7).toInt ≤ (v 3).toInt) → ((v 3).toInt - (v20 7).toInt).toNat < N_20 → va_P G vwCl (WMs cy mo h v20 nm20 f g) H → va_D A (WMs cy mo h v20 nm20 f g) → va_S A s.heap H locs → lv_has ls 3 [(1, .int r_u_3), (0, .ref mo)] → W p l e (headSpec (.code yX12_goOn cX12_goOn 3 none :: TBg) ({ frames := 2, cells := 0, slots := 0, locals := 128 })).room s m ([.ref mo] : List Value).toArray below meth c H locs 0 0 (MQ below (va_Qv (fun (u : (Nat → Int32) × Int64) => MIv T u.1 ∧ FV [6, 7, 8, 9] v u.1 ∧ (((u.1 7).toInt ≤ (v 3).toInt ∧ (((u.1 8).toInt = 0 ∧ (u.1 7).toInt = (v 3).toInt) ∨ ((u.1 8).toInt ≠ 0 ∧ (v 7).toInt < (u.1 7).toInt)))) ∧ (0 ≤ mz (v 3).toInt (u.1 7).toInt (u.1 8).toInt ∧ mz (v 3).toInt (u.1 7).toInt (u.1 8).toInt ≤ mz (v 3).toInt (v 7).toInt (v 8).toInt ∧ ((v 8).toInt = 0 ∨ mz (v 3).toInt (u.1 7).toInt (u.1 8).toInt < mz (v 3).toInt (v 7).toInt (v 8).toInt))) (fun u t => Ex G A (WMs cy mo h u.1 u.2 f g) t) A) ([.ref mo] : List Value).toArray s 0 0 A) (F0 m 259 ls []) := by
            intro N_20
            induction N_20 with
            | zero => intro v20 nm20 H locs ls hv hV_20 qf20_0 hm hP hD hS hl; exact absurd hm (Nat.not_lt_zero _)
            | succ N_20 ih_20 =>
              intro v20 nm20 H locs ls hv hV_20 qf20_0 hm hP hD hS hl
              have hR : RI v20 f := RI.fv hR hV_20 (by decide)
              have hL : WL v20 f := WL.fv hL hV_20 (by decide) (by decide)
              have hV_0 := FV.tr hV_0 hV_20 (by decide)
              have hW_20 := hV_20
              refine lv_aload_n hx hb dX12_goOn_259 rfl (lv_at hl 1 rfl) ?_
              refine lv_aload_n hx hb dX12_goOn_260 rfl (lv_at hl 1 rfl) ?_
              refine mg_7 hx hb ht hown hK hP dX12_goOn_261 ?_
              have q_21 : 0 ≤ (v20 7).toInt ∧ (v20 7).toInt ≤ 1701 := hv 7
              have hFc := fr_new hS hA
              refine va_calli (va_runV (As := [.int (v20 7)]) (rest := []) ⟨hx, hb, hml, hown, ht⟩ (m_sign l G cy _ mo h T v20 nm20 f g (v20 7)  hv hf hR hL (by omega)) (cwV 1 ht (gv k_207 k_208 k_209 k_61 k_206) rfl rfl rfl (by decide +kernel) ⟨Nat.le_of_ble_eq_true rfl, Nat.le_of_ble_eq_true rfl⟩) ⟨En.blind, va_recv hK hP (ci := 12) (q0 := 0) rfl rfl, fun U hU hW => ⟨rfl, En.of hU hW hP hK hD hN⟩⟩ rfl rfl hl.1 rfl (lv_room (Nat.le_of_ble_eq_true rfl)) dX12_goOn_264 ⟨Nat.le_of_ble_eq_true rfl, Nat.le_of_ble_eq_true rfl⟩) hS (fun q _ h => hFc q h) hFc (fun r_u_22 u_22 t9 H locs ht9 hvm hw hB hz1 hk1 hS => ?_)
              have hP := fr_keep hP hk1
              have wu_22 := hw
              clear hFc hk1 hz1 hB hw
              have wu_22 : (0 ≤ r_u_22.toInt ∧ r_u_22.toInt ≤ 255) ∧ (r_u_22.toInt = sgn (v 3).toInt (f 1) (v20 7).toInt ∧ (r_u_22.toInt = 0 ∨ (v20 7).toInt < (v 3).toInt)) := by
                have h9 : (0 ≤ r_u_22.toInt ∧ r_u_22.toInt ≤ 255) ∧ (r_u_22.toInt = sgn (v20 3).toInt (f 1) (v20 7).toInt ∧ (r_u_22.toInt = 0 ∨ (v20 7).toInt < (v20 3).toInt)) := wu_22
                rw [(show v20 3 = (v 3) from ((hV_20 3 (by decide)).trans (hV_1 3 (by decide))))] at h9
                exact h9
              have hFc := fr_new hS hA
              refine va_calli (va_runS (As := [.int r_u_22]) (rest := []) ⟨hx, hb, hml, hown, ht⟩ (m_isDigit l G cy _  r_u_22  ) (va_cwS 1 ht (gs k_215 k_216 k_61 k_214) rfl rfl rfl (by decide +kernel) ⟨Nat.le_of_ble_eq_true rfl, Nat.le_of_ble_eq_true rfl⟩) ⟨En.blind, fun U hU hW => ⟨rfl, En.of hU hW (va_P0 (H := _)) hK va_D0 hN⟩⟩ rfl rfl hl.1 rfl (lv_room (Nat.le_of_ble_eq_true rfl)) dX12_goOn_267 ⟨Nat.le_of_ble_eq_true rfl, Nat.le_of_ble_eq_true rfl⟩) hS (fun q _ h => hFc q h) hFc (fun r_u_23 u_23 t9 H locs ht9 hvm hw hB hz1 hk1 hS => ?_)
              have hP := fr_keep hP hk1
              have wu_23 := hw
              clear hFc hk1 hz1 hB hw
              refine lv_if_eq (tgt := 322) hx hb dX12_goOn_270 (by decide) (fun c_24 => ?_) (fun c_24 => ?_)
              · have q_25 : r_u_23.toInt = (0 : Int32).toInt := (ow_eq _ _).mp c_24
                have hs9 : sgn (v 3).toInt (f 1) (v20 7).toInt = sgn (v 3).toInt (f 1) (v1 6).toInt ∨ ¬ (v20 7).toInt = (v1 6).toInt := by
                  by_cases e9 : (v20 7).toInt = (v1 6).toInt
                  · left; rw [e9]
                  · exact Or.inr e9
                refine lv_aload_n hx hb dX12_goOn_322 rfl (lv_at hl 1 rfl) ?_
                refine lv_aload_n hx hb dX12_goOn_323 rfl (lv_at hl 1 rfl) ?_
                refine mg_7 hx hb ht hown hK hP dX12_goOn_324 ?_
                refine lv_aload_n hx hb dX12_goOn_327 rfl (lv_at hl 1 rfl) ?_
                refine mg_6 hx hb ht hown hK hP dX12_goOn_328 ?_
                refine ow_top (v1 6) (hV_20 6 (by decide)) ?_
                have q_26 : 0 ≤ (v1 6).toInt ∧ (v1 6).toInt ≤ 1700 := by have h9 : v20 6 = (v1 6) := (hV_20 6 (by decide)); rw [← h9]; exact hv 6
                refine lv_isub hx hb dX12_goOn_331 ?_
                refine lv_topi (fun v_27 ev_27 => ?_)
                have q_28 : v_27.toInt = (v20 7).toInt - (v1 6).toInt := ow_sub ev_27 (by omega) (by omega)
                refine lv_iconst (v := 4) hx hb dX12_goOn_332 (by decide) ?_
                refine lv_icmp_gt (tgt := 350) hx hb dX12_goOn_333 (by decide) (fun c_29 => ?_) (fun c_29 => ?_)
                · have q_30 : (4 : Int32).toInt < v_27.toInt := (ow_lt _ _).mp c_29
                  refine lv_iconst (v := 1) hx hb dX12_goOn_350 (by decide) ?_
                  refine lv_goto (tgt := 355) hx hb dX12_goOn_351 (by decide) ?_
                  refine mp_8 hx hb ht hown hK hP hD hS dX12_goOn_355 (fun H locs hP hD hS => ?_)
                  have hv := MIv.up 8 hv (ow_any (1 : Int32))
                  have hL : WL (va_up v20 8 1) f := WL.upv 8 hL (by decide)
                  have hR : RI (va_up v20 8 1) f := RI.upv 8 hR (by decide)
                  have hV_0 := FV.up hV_0 8 (1) (by decide)
                  refine lv_goto (tgt := 377) hx hb dX12_goOn_358 (by decide) ?_
                  refine W.widen (k := 0) (n := 0) (Nat.le_of_ble_eq_true rfl) (Nat.le_of_ble_eq_true rfl) ?_
                  exact W.vret hx hb hr (fun t ht9 hW => ⟨⟨((va_up v20 8 1), nm20), rfl, ⟨hv, hV_0, (show (v20 7).toInt ≤ (v 3).toInt ∧ (((1 : Int32).toInt = 0 ∧ (v20 7).toInt = (v 3).toInt) ∨ ((1 : Int32).toInt ≠ 0 ∧ (v 7).toInt < (v20 7).toInt)) from by first | omega | (subst_vars; first | rfl | omega)), (mz_go he (show (v20 7).toInt ≤ (v 3).toInt from by omega) (show ((1 : Int32).toInt = 0 ∧ (v20 7).toInt = (v 3).toInt) ∨ ((1 : Int32).toInt ≠ 0 ∧ (v 7).toInt < (v20 7).toInt) from by omega))⟩, ⟨by rw [ht9]; exact hP, hD⟩⟩, hS.F ht9⟩) hS.2.2 dX12_goOn_377
                · have q_31 : v_27.toInt ≤ (4 : Int32).toInt := by have := (not_congr (ow_lt _ _)).mp c_29; omega
                  refine lv_aload_n hx hb dX12_goOn_336 rfl (lv_at hl 1 rfl) ?_
                  refine lv_aload_n hx hb dX12_goOn_337 rfl (lv_at hl 1 rfl) ?_
                  refine mg_7 hx hb ht hown hK hP dX12_goOn_338 ?_
                  have hFc := fr_new hS hA
                  refine va_calli (va_runV (As := [.int (v20 7)]) (rest := [.ref mo]) ⟨hx, hb, hml, hown, ht⟩ (m_sign l G cy _ mo h T v20 nm20 f g (v20 7)  hv hf hR hL (by omega)) (cwV 1 ht (gv k_207 k_208 k_209 k_61 k_206) rfl rfl rfl (by decide +kernel) ⟨Nat.le_of_ble_eq_true rfl, Nat.le_of_ble_eq_true rfl⟩) ⟨En.blind, va_recv hK hP (ci := 12) (q0 := 0) rfl rfl, fun U hU hW => ⟨rfl, En.of hU hW hP hK hD hN⟩⟩ rfl rfl hl.1 rfl (lv_room (Nat.le_of_ble_eq_true rfl)) dX12_goOn_341 ⟨Nat.le_of_ble_eq_true rfl, Nat.le_of_ble_eq_true rfl⟩) hS (fun q _ h => hFc q h) hFc (fun r_u_32 u_32 t9 H locs ht9 hvm hw hB hz1 hk1 hS => ?_)
                  have hP := fr_keep hP hk1
                  have wu_32 := hw
                  clear hFc hk1 hz1 hB hw
                  have wu_32 : (0 ≤ r_u_32.toInt ∧ r_u_32.toInt ≤ 255) ∧ (r_u_32.toInt = sgn (v 3).toInt (f 1) (v20 7).toInt ∧ (r_u_32.toInt = 0 ∨ (v20 7).toInt < (v 3).toInt)) := by
                    have h9 : (0 ≤ r_u_32.toInt ∧ r_u_32.toInt ≤ 255) ∧ (r_u_32.toInt = sgn (v20 3).toInt (f 1) (v20 7).toInt ∧ (r_u_32.toInt = 0 ∨ (v20 7).toInt < (v20 3).toInt)) := wu_32
                    rw [(show v20 3 = (v 3) from ((hV_20 3 (by decide)).trans (hV_1 3 (by decide))))] at h9
                    exact h9
                  have hFc := fr_new hS hA
                  refine va_calli (va_runS (As := [.int r_u_32]) (rest := [.ref mo]) ⟨hx, hb, hml, hown, ht⟩ (m_isLetter l G cy _  r_u_32  ) (va_cwS 1 ht (gs k_131 k_132 k_61 k_130) rfl rfl rfl (by decide +kernel) ⟨Nat.le_of_ble_eq_true rfl, Nat.le_of_ble_eq_true rfl⟩) ⟨En.blind, fun U hU hW => ⟨rfl, En.of hU hW (va_P0 (H := _)) hK va_D0 hN⟩⟩ rfl rfl hl.1 rfl (lv_room (Nat.le_of_ble_eq_true rfl)) dX12_goOn_344 ⟨Nat.le_of_ble_eq_true rfl, Nat.le_of_ble_eq_true rfl⟩) hS (fun q _ h => hFc q h) hFc (fun r_u_33 u_33 t9 H locs ht9 hvm hw hB hz1 hk1 hS => ?_)
                  have hP := fr_keep hP hk1
                  have wu_33 := hw
                  clear hFc hk1 hz1 hB hw
                  refine lv_if_eq (tgt := 354) hx hb dX12_goOn_347 (by decide) (fun c_34 => ?_) (fun c_34 => ?_)
                  · have q_35 : r_u_33.toInt = (0 : Int32).toInt := (ow_eq _ _).mp c_34
                    refine lv_iconst (v := 4) hx hb dX12_goOn_354 (by decide) ?_
                    refine mp_8 hx hb ht hown hK hP hD hS dX12_goOn_355 (fun H locs hP hD hS => ?_)
                    have hv := MIv.up 8 hv (ow_any (4 : Int32))
                    have hL : WL (va_up v20 8 4) f := WL.upv 8 hL (by decide)
                    have hR : RI (va_up v20 8 4) f := RI.upv 8 hR (by decide)
                    have hV_0 := FV.up hV_0 8 (4) (by decide)
                    refine lv_goto (tgt := 377) hx hb dX12_goOn_358 (by decide) ?_
                    refine W.widen (k := 0) (n := 0) (Nat.le_of_ble_eq_true rfl) (Nat.le_of_ble_eq_true rfl) ?_
                    exact W.vret hx hb hr (fun t ht9 hW => ⟨⟨((va_up v20 8 4), nm20), rfl, ⟨hv, hV_0, (show (v20 7).toInt ≤ (v 3).toInt ∧ (((4 : Int32).toInt = 0 ∧ (v20 7).toInt = (v 3).toInt) ∨ ((4 : Int32).toInt ≠ 0 ∧ (v 7).toInt < (v20 7).toInt)) from by first | omega | (subst_vars; first | rfl | omega)), (mz_go he (show (v20 7).toInt ≤ (v 3).toInt from by omega) (show ((4 : Int32).toInt = 0 ∧ (v20 7).toInt = (v 3).toInt) ∨ ((4 : Int32).toInt ≠ 0 ∧ (v 7).toInt < (v20 7).toInt) from by omega))⟩, ⟨by rw [ht9]; exact hP, hD⟩⟩, hS.F ht9⟩) hS.2.2 dX12_goOn_377
                  · have q_36 : ¬ r_u_33.toInt = (0 : Int32).toInt := by have := (not_congr (ow_eq _ _)).mp c_34; omega
                    refine lv_iconst (v := 1) hx hb dX12_goOn_350 (by decide) ?_
                    refine lv_goto (tgt := 355) hx hb dX12_goOn_351 (by decide) ?_
                    refine mp_8 hx hb ht hown hK hP hD hS dX12_goOn_355 (fun H locs hP hD hS => ?_)
                    have hv := MIv.up 8 hv (ow_any (1 : Int32))
                    have hL : WL (va_up v20 8 1) f := WL.upv 8 hL (by decide)
                    have hR : RI (va_up v20 8 1) f := RI.upv 8 hR (by decide)
                    have hV_0 := FV.up hV_0 8 (1) (by decide)
                    refine lv_goto (tgt := 377) hx hb dX12_goOn_358 (by decide) ?_
                    refine W.widen (k := 0) (n := 0) (Nat.le_of_ble_eq_true rfl) (Nat.le_of_ble_eq_true rfl) ?_
                    exact W.vret hx hb hr (fun t ht9 hW => ⟨⟨((va_up v20 8 1), nm20), rfl, ⟨hv, hV_0, (show (v20 7).toInt ≤ (v 3).toInt ∧ (((1 : Int32).toInt = 0 ∧ (v20 7).toInt = (v 3).toInt) ∨ ((1 : Int32).toInt ≠ 0 ∧ (v 7).toInt < (v20 7).toInt)) from by first | omega | (subst_vars; first | rfl | omega)), (mz_go he (show (v20 7).toInt ≤ (v 3).toInt from by omega) (show ((1 : Int32).toInt = 0 ∧ (v20 7).toInt = (v 3).toInt) ∨ ((1 : Int32).toInt ≠ 0 ∧ (v 7).toInt < (v20 7).toInt) from by omega))⟩, ⟨by rw [ht9]; exact hP, hD⟩⟩, hS.F ht9⟩) hS.2.2 dX12_goOn_377
              · have q_37 : ¬ r_u_23.toInt = (0 : Int32).toInt := by have := (not_congr (ow_eq _ _)).mp c_24; omega
                refine lv_aload_n hx hb dX12_goOn_273 rfl (lv_at hl 1 rfl) ?_
                refine mg_7 hx hb ht hown hK hP dX12_goOn_274 ?_
                refine lv_aload_n hx hb dX12_goOn_277 rfl (lv_at hl 1 rfl) ?_
                refine mg_6 hx hb ht hown hK hP dX12_goOn_278 ?_
                refine ow_top (v1 6) (hV_20 6 (by decide)) ?_
                have q_38 : 0 ≤ (v1 6).toInt ∧ (v1 6).toInt ≤ 1700 := by have h9 : v20 6 = (v1 6) := (hV_20 6 (by decide)); rw [← h9]; exact hv 6
                refine lv_isub hx hb dX12_goOn_281 ?_
                refine lv_topi (fun v_39 ev_39 => ?_)
                have q_40 : v_39.toInt = (v20 7).toInt - (v1 6).toInt := ow_sub ev_39 (by omega) (by omega)
                refine lv_iconst (v := 4) hx hb dX12_goOn_282 (by decide) ?_
                refine lv_icmp_ge (tgt := 309) hx hb dX12_goOn_283 (by decide) (fun c_41 => ?_) (fun c_41 => ?_)
                · have q_42 : (4 : Int32).toInt ≤ v_39.toInt := (ow_le _ _).mp c_41
                  refine lv_aload_n hx hb dX12_goOn_309 rfl (lv_at hl 1 rfl) ?_
                  refine lv_dup hx hb dX12_goOn_310 rfl ?_
                  refine mg_7 hx hb ht hown hK hP dX12_goOn_311 ?_
                  refine lv_iconst (v := 1) hx hb dX12_goOn_314 (by decide) ?_
                  refine lv_iadd hx hb dX12_goOn_315 ?_
                  refine lv_topi (fun v_43 ev_43 => ?_)
                  have q_44 : v_43.toInt = (v20 7).toInt + (1 : Int32).toInt := ow_add ev_43 (by omega) (by omega)
                  refine mp_7 hx hb ht hown hK hP hD hS dX12_goOn_316 (fun H locs hP hD hS => ?_)
                  have hv := MIv.up 7 hv (show 0 ≤ v_43.toInt ∧ v_43.toInt ≤ 1701 from by omega)
                  have hL : WL (va_up v20 7 v_43) f := WL.upv 7 hL (by decide)
                  have hR : RI (va_up v20 7 v_43) f := RI.upv 7 hR (by decide)
                  have hV_0 := FV.up hV_0 7 v_43 (by decide)
                  have hW_20 := FV.up hW_20 7 v_43 (by decide)
                  refine lv_goto (tgt := 259) hx hb dX12_goOn_319 (by decide) ?_
                  refine W.widen (k := 0) (n := 0) (Nat.le_of_ble_eq_true rfl) (Nat.le_of_ble_eq_true rfl) ?_
                  exact ih_20 (va_up v20 7 v_43) nm20 _ _ _ hv hW_20 (show (v1 6).toInt ≤ v_43.toInt ∧ v_43.toInt ≤ (v 3).toInt from by omega) (show ((v 3).toInt - v_43.toInt).toNat < N_20 from by omega) hP hD hS (lv_sub hl [0, 1] rfl)
                · have q_45 : v_39.toInt < (4 : Int32).toInt := by have := (not_congr (ow_le _ _)).mp c_41; omega
                  refine lv_aload_n hx hb dX12_goOn_286 rfl (lv_at hl 1 rfl) ?_
                  refine lv_bipush (v := 10) hx hb dX12_goOn_287 (by decide) ?_
                  refine lv_aload_n hx hb dX12_goOn_289 rfl (lv_at hl 1 rfl) ?_
                  refine mg_9 hx hb ht hown hK hP dX12_goOn_290 ?_
                  refine lv_imul hx hb dX12_goOn_293 ?_
                  refine lv_topi (fun v_46 ev_46 => ?_)
                  refine lv_aload_n hx hb dX12_goOn_294 rfl (lv_at hl 1 rfl) ?_
                  refine lv_aload_n hx hb dX12_goOn_295 rfl (lv_at hl 1 rfl) ?_
                  refine mg_7 hx hb ht hown hK hP dX12_goOn_296 ?_
                  have hFc := fr_new hS hA
                  refine va_calli (va_runV (As := [.int (v20 7)]) (rest := [.int v_46, .ref mo]) ⟨hx, hb, hml, hown, ht⟩ (m_sign l G cy _ mo h T v20 nm20 f g (v20 7)  hv hf hR hL (by omega)) (cwV 1 ht (gv k_207 k_208 k_209 k_61 k_206) rfl rfl rfl (by decide +kernel) ⟨Nat.le_of_ble_eq_true rfl, Nat.le_of_ble_eq_true rfl⟩) ⟨En.blind, va_recv hK hP (ci := 12) (q0 := 0) rfl rfl, fun U hU hW => ⟨rfl, En.of hU hW hP hK hD hN⟩⟩ rfl rfl hl.1 rfl (lv_room (Nat.le_of_ble_eq_true rfl)) dX12_goOn_299 ⟨Nat.le_of_ble_eq_true rfl, Nat.le_of_ble_eq_true rfl⟩) hS (fun q _ h => hFc q h) hFc (fun r_u_47 u_47 t9 H locs ht9 hvm hw hB hz1 hk1 hS => ?_)
                  have hP := fr_keep hP hk1
                  have wu_47 := hw
                  clear hFc hk1 hz1 hB hw
                  have wu_47 : (0 ≤ r_u_47.toInt ∧ r_u_47.toInt ≤ 255) ∧ (r_u_47.toInt = sgn (v 3).toInt (f 1) (v20 7).toInt ∧ (r_u_47.toInt = 0 ∨ (v20 7).toInt < (v 3).toInt)) := by
                    have h9 : (0 ≤ r_u_47.toInt ∧ r_u_47.toInt ≤ 255) ∧ (r_u_47.toInt = sgn (v20 3).toInt (f 1) (v20 7).toInt ∧ (r_u_47.toInt = 0 ∨ (v20 7).toInt < (v20 3).toInt)) := wu_47
                    rw [(show v20 3 = (v 3) from ((hV_20 3 (by decide)).trans (hV_1 3 (by decide))))] at h9
                    exact h9
                  refine lv_iadd hx hb dX12_goOn_302 ?_
                  refine lv_topi (fun v_48 ev_48 => ?_)
                  refine lv_bipush (v := 48) hx hb dX12_goOn_303 (by decide) ?_
                  refine lv_isub hx hb dX12_goOn_305 ?_
                  refine lv_topi (fun v_49 ev_49 => ?_)
                  refine mp_9 hx hb ht hown hK hP hD hS dX12_goOn_306 (fun H locs hP hD hS => ?_)
                  have hv := MIv.up 9 hv (ow_any v_49)
                  have hL : WL (va_up v20 9 v_49) f := WL.upv 9 hL (by decide)
                  have hR : RI (va_up v20 9 v_49) f := RI.upv 9 hR (by decide)
                  have hV_0 := FV.up hV_0 9 v_49 (by decide)
                  have hW_20 := FV.up hW_20 9 v_49 (by decide)
                  refine lv_aload_n hx hb dX12_goOn_309 rfl (lv_at hl 1 rfl) ?_
                  refine lv_dup hx hb dX12_goOn_310 rfl ?_
                  refine mg_7 hx hb ht hown hK hP dX12_goOn_311 ?_
                  refine ow_top (v20 7) rfl ?_
                  refine lv_iconst (v := 1) hx hb dX12_goOn_314 (by decide) ?_
                  refine lv_iadd hx hb dX12_goOn_315 ?_
                  refine lv_topi (fun v_50 ev_50 => ?_)
                  have q_51 : v_50.toInt = (v20 7).toInt + (1 : Int32).toInt := ow_add ev_50 (by omega) (by omega)
                  refine mp_7 hx hb ht hown hK hP hD hS dX12_goOn_316 (fun H locs hP hD hS => ?_)
                  have hv := MIv.up 7 hv (show 0 ≤ v_50.toInt ∧ v_50.toInt ≤ 1701 from by omega)
                  have hL : WL (va_up (va_up v20 9 v_49) 7 v_50) f := WL.upv 7 hL (by decide)
                  have hR : RI (va_up (va_up v20 9 v_49) 7 v_50) f := RI.upv 7 hR (by decide)
                  have hV_0 := FV.up hV_0 7 v_50 (by decide)
                  have hW_20 := FV.up hW_20 7 v_50 (by decide)
                  refine lv_goto (tgt := 259) hx hb dX12_goOn_319 (by decide) ?_
                  refine W.widen (k := 0) (n := 0) (Nat.le_of_ble_eq_true rfl) (Nat.le_of_ble_eq_true rfl) ?_
                  exact ih_20 (va_up (va_up v20 9 v_49) 7 v_50) nm20 _ _ _ hv hW_20 (show (v1 6).toInt ≤ v_50.toInt ∧ v_50.toInt ≤ (v 3).toInt from by omega) (show ((v 3).toInt - v_50.toInt).toNat < N_20 from by omega) hP hD hS (lv_sub hl [0, 1] rfl)
          exact lp_20 _ (va_up (va_up (va_up v1 7 v_4) 9 0) 7 (v1 6)) nm1 _ _ _ hv FV.rf (show (v1 6).toInt ≤ (v1 6).toInt ∧ (v1 6).toInt ≤ (v 3).toInt from by omega) (Nat.lt_succ_self _) hP hD hS (lv_sub hl [0, 1] rfl)
      · have q_52 : ¬ r_u_9.toInt = (0 : Int32).toInt := by have := (not_congr (ow_eq _ _)).mp c_10; omega
        refine W.widen (k := 0) (n := 0) (Nat.le_of_ble_eq_true rfl) (Nat.le_of_ble_eq_true rfl) ?_
        have lp_53 : ∀ (N_53 : Nat) (v53 : Nat → Int32) (nm53 : Int64) (H : Heap) (locs : List Loc) (ls : Array Slot), MIv T v53 → FV [7] (va_up v1 7 v_4) v53 → ((v1 6).toInt + 1 ≤ (v53 7).toInt ∧ (v53 7).toInt ≤ (v 3).toInt) → ((v 3).toInt - (v53 7).toInt).toNat < N_53 → va_P G vwCl (WMs cy mo h v53 nm53 f g) H → va_D A (WMs cy mo h v53 nm53 f g) → va_S A s.heap H locs → lv_has ls 3 [(1, .int r_u_3), (0, .ref mo)] → W p l e (headSpec (.code yX12_goOn cX12_goOn 3 none :: TBg) ({ frames := 2, cells := 0, slots := 0, locals := 128 })).room s m ([.ref mo] : List Value).toArray below meth c H locs 0 0 (MQ below (va_Qv (fun (u : (Nat → Int32) × Int64) => MIv T u.1 ∧ FV [6, 7, 8, 9] v u.1 ∧ (((u.1 7).toInt ≤ (v 3).toInt ∧ (((u.1 8).toInt = 0 ∧ (u.1 7).toInt = (v 3).toInt) ∨ ((u.1 8).toInt ≠ 0 ∧ (v 7).toInt < (u.1 7).toInt)))) ∧ (0 ≤ mz (v 3).toInt (u.1 7).toInt (u.1 8).toInt ∧ mz (v 3).toInt (u.1 7).toInt (u.1 8).toInt ≤ mz (v 3).toInt (v 7).toInt (v 8).toInt ∧ ((v 8).toInt = 0 ∨ mz (v 3).toInt (u.1 7).toInt (u.1 8).toInt < mz (v 3).toInt (v 7).toInt (v 8).toInt))) (fun u t => Ex G A (WMs cy mo h u.1 u.2 f g) t) A) ([.ref mo] : List Value).toArray s 0 0 A) (F0 m 119 ls []) := by
          intro N_53
          induction N_53 with
          | zero => intro v53 nm53 H locs ls hv hV_53 qf53_0 hm hP hD hS hl; exact absurd hm (Nat.not_lt_zero _)
          | succ N_53 ih_53 =>
            intro v53 nm53 H locs ls hv hV_53 qf53_0 hm hP hD hS hl
            have hR : RI v53 f := RI.fv hR hV_53 (by decide)
            have hL : WL v53 f := WL.fv hL hV_53 (by decide) (by decide)
            have hV_0 := FV.tr hV_0 hV_53 (by decide)
            have hW_53 := hV_53
            refine lv_aload_n hx hb dX12_goOn_119 rfl (lv_at hl 1 rfl) ?_
            refine lv_aload_n hx hb dX12_goOn_120 rfl (lv_at hl 1 rfl) ?_
            refine mg_7 hx hb ht hown hK hP dX12_goOn_121 ?_
            have q_54 : 0 ≤ (v53 7).toInt ∧ (v53 7).toInt ≤ 1701 := hv 7
            have hFc := fr_new hS hA
            refine va_calli (va_runV (As := [.int (v53 7)]) (rest := []) ⟨hx, hb, hml, hown, ht⟩ (m_sign l G cy _ mo h T v53 nm53 f g (v53 7)  hv hf hR hL (by omega)) (cwV 1 ht (gv k_207 k_208 k_209 k_61 k_206) rfl rfl rfl (by decide +kernel) ⟨Nat.le_of_ble_eq_true rfl, Nat.le_of_ble_eq_true rfl⟩) ⟨En.blind, va_recv hK hP (ci := 12) (q0 := 0) rfl rfl, fun U hU hW => ⟨rfl, En.of hU hW hP hK hD hN⟩⟩ rfl rfl hl.1 rfl (lv_room (Nat.le_of_ble_eq_true rfl)) dX12_goOn_124 ⟨Nat.le_of_ble_eq_true rfl, Nat.le_of_ble_eq_true rfl⟩) hS (fun q _ h => hFc q h) hFc (fun r_u_55 u_55 t9 H locs ht9 hvm hw hB hz1 hk1 hS => ?_)
            have hP := fr_keep hP hk1
            have wu_55 := hw
            clear hFc hk1 hz1 hB hw
            have wu_55 : (0 ≤ r_u_55.toInt ∧ r_u_55.toInt ≤ 255) ∧ (r_u_55.toInt = sgn (v 3).toInt (f 1) (v53 7).toInt ∧ (r_u_55.toInt = 0 ∨ (v53 7).toInt < (v 3).toInt)) := by
              have h9 : (0 ≤ r_u_55.toInt ∧ r_u_55.toInt ≤ 255) ∧ (r_u_55.toInt = sgn (v53 3).toInt (f 1) (v53 7).toInt ∧ (r_u_55.toInt = 0 ∨ (v53 7).toInt < (v53 3).toInt)) := wu_55
              rw [(show v53 3 = (v 3) from ((hV_53 3 (by decide)).trans (hV_1 3 (by decide))))] at h9
              exact h9
            have hFc := fr_new hS hA
            refine va_calli (va_runS (As := [.int r_u_55]) (rest := []) ⟨hx, hb, hml, hown, ht⟩ (m_isLetter l G cy _  r_u_55  ) (va_cwS 1 ht (gs k_131 k_132 k_61 k_130) rfl rfl rfl (by decide +kernel) ⟨Nat.le_of_ble_eq_true rfl, Nat.le_of_ble_eq_true rfl⟩) ⟨En.blind, fun U hU hW => ⟨rfl, En.of hU hW (va_P0 (H := _)) hK va_D0 hN⟩⟩ rfl rfl hl.1 rfl (lv_room (Nat.le_of_ble_eq_true rfl)) dX12_goOn_127 ⟨Nat.le_of_ble_eq_true rfl, Nat.le_of_ble_eq_true rfl⟩) hS (fun q _ h => hFc q h) hFc (fun r_u_56 u_56 t9 H locs ht9 hvm hw hB hz1 hk1 hS => ?_)
            have hP := fr_keep hP hk1
            have wu_56 := hw
            clear hFc hk1 hz1 hB hw
            refine lv_if_eq (tgt := 146) hx hb dX12_goOn_130 (by decide) (fun c_57 => ?_) (fun c_57 => ?_)
            · have q_58 : r_u_56.toInt = (0 : Int32).toInt := (ow_eq _ _).mp c_57
              refine lv_aload_n hx hb dX12_goOn_146 rfl (lv_at hl 1 rfl) ?_
              refine lv_lconst (v := 0) hx hb dX12_goOn_147 (by decide) ?_
              refine mp_10 hx hb ht hown hK hP hD hS dX12_goOn_148 (fun H locs hP hD hS => ?_)
              refine lv_aload_n hx hb dX12_goOn_151 rfl (lv_at hl 1 rfl) ?_
              refine mg_6 hx hb ht hown hK hP dX12_goOn_152 ?_
              refine ow_top (v1 6) (hV_53 6 (by decide)) ?_
              have q_59 : 0 ≤ (v1 6).toInt ∧ (v1 6).toInt ≤ 1700 := by have h9 : v53 6 = (v1 6) := (hV_53 6 (by decide)); rw [← h9]; exact hv 6
              refine lv_istore_n (lv' := [(2, .int (v1 6)), (1, .int r_u_3), (0, .ref mo)]) hx hb dX12_goOn_155 rfl hl (by decide) rfl (fun ls hl => ?_)
              refine W.widen (k := 0) (n := 0) (Nat.le_of_ble_eq_true rfl) (Nat.le_of_ble_eq_true rfl) ?_
              have lp_60 : ∀ (N_60 : Nat) (x2_60 : Int32) (v60 : Nat → Int32) (nm60 : Int64) (H : Heap) (locs : List Loc) (ls : Array Slot), MIv T v60 → FV [] v53 v60 → (0 ≤ x2_60.toInt ∧ x2_60.toInt ≤ 1701) → ((v53 7).toInt - x2_60.toInt).toNat < N_60 → va_P G vwCl (WMs cy mo h v60 nm60 f g) H → va_D A (WMs cy mo h v60 nm60 f g) → va_S A s.heap H locs → lv_has ls 3 [(2, .int x2_60), (1, .int r_u_3), (0, .ref mo)] → W p l e (headSpec (.code yX12_goOn cX12_goOn 3 none :: TBg) ({ frames := 2, cells := 0, slots := 0, locals := 128 })).room s m ([.ref mo] : List Value).toArray below meth c H locs 0 0 (MQ below (va_Qv (fun (u : (Nat → Int32) × Int64) => MIv T u.1 ∧ FV [6, 7, 8, 9] v u.1 ∧ (((u.1 7).toInt ≤ (v 3).toInt ∧ (((u.1 8).toInt = 0 ∧ (u.1 7).toInt = (v 3).toInt) ∨ ((u.1 8).toInt ≠ 0 ∧ (v 7).toInt < (u.1 7).toInt)))) ∧ (0 ≤ mz (v 3).toInt (u.1 7).toInt (u.1 8).toInt ∧ mz (v 3).toInt (u.1 7).toInt (u.1 8).toInt ≤ mz (v 3).toInt (v 7).toInt (v 8).toInt ∧ ((v 8).toInt = 0 ∨ mz (v 3).toInt (u.1 7).toInt (u.1 8).toInt < mz (v 3).toInt (v 7).toInt (v 8).toInt))) (fun u t => Ex G A (WMs cy mo h u.1 u.2 f g) t) A) ([.ref mo] : List Value).toArray s 0 0 A) (F0 m 156 ls []) := by
                intro N_60
                induction N_60 with
                | zero => intro x2_60 v60 nm60 H locs ls hv hV_60 qf60_0 hm hP hD hS hl; exact absurd hm (Nat.not_lt_zero _)
                | succ N_60 ih_60 =>
                  intro x2_60 v60 nm60 H locs ls hv hV_60 qf60_0 hm hP hD hS hl
                  have hR : RI v60 f := RI.fv hR hV_60 (by decide)
                  have hL : WL v60 f := WL.fv hL hV_60 (by decide) (by decide)
                  have hV_0 := FV.tr hV_0 hV_60 (by decide)
                  have hW_60 := hV_60
                  refine lv_iload_n hx hb dX12_goOn_156 rfl (lv_at hl 0 rfl) ?_
                  refine lv_aload_n hx hb dX12_goOn_157 rfl (lv_at hl 2 rfl) ?_
                  refine mg_7 hx hb ht hown hK hP dX12_goOn_158 ?_
                  refine ow_top (v53 7) (hV_60 7 (by decide)) ?_
                  have q_61 : 0 ≤ (v53 7).toInt ∧ (v53 7).toInt ≤ 1701 := by have h9 : v60 7 = (v53 7) := (hV_60 7 (by decide)); rw [← h9]; exact hv 7
                  refine lv_icmp_ge (tgt := 199) hx hb dX12_goOn_161 (by decide) (fun c_62 => ?_) (fun c_62 => ?_)
                  · have q_63 : (v53 7).toInt ≤ x2_60.toInt := (ow_le _ _).mp c_62
                    refine lv_aload_n hx hb dX12_goOn_199 rfl (lv_at hl 2 rfl) ?_
                    refine lv_aload_n hx hb dX12_goOn_200 rfl (lv_at hl 2 rfl) ?_
                    refine mg_7 hx hb ht hown hK hP dX12_goOn_201 ?_
                    refine ow_top (v53 7) (hV_60 7 (by decide)) ?_
                    refine lv_aload_n hx hb dX12_goOn_204 rfl (lv_at hl 2 rfl) ?_
                    refine mg_6 hx hb ht hown hK hP dX12_goOn_205 ?_
                    refine ow_top (v1 6) ((hV_60 6 (by decide)).trans (hV_53 6 (by decide))) ?_
                    have q_64 : 0 ≤ (v1 6).toInt ∧ (v1 6).toInt ≤ 1700 := by have h9 : v60 6 = (v1 6) := ((hV_60 6 (by decide)).trans (hV_53 6 (by decide))); rw [← h9]; exact hv 6
                    refine lv_isub hx hb dX12_goOn_208 ?_
                    refine lv_topi (fun v_65 ev_65 => ?_)
                    have q_66 : v_65.toInt = (v53 7).toInt - (v1 6).toInt := ow_sub ev_65 (by omega) (by omega)
                    refine lv_bipush (v := 8) hx hb dX12_goOn_209 (by decide) ?_
                    refine lv_icmp_le (tgt := 218) hx hb dX12_goOn_211 (by decide) (fun c_67 => ?_) (fun c_67 => ?_)
                    · have q_68 : v_65.toInt ≤ (8 : Int32).toInt := (ow_le _ _).mp c_67
                      refine lv_aload_n hx hb dX12_goOn_218 rfl (lv_at hl 2 rfl) ?_
                      refine mg_10 hx hb ht hown hK hP dX12_goOn_219 ?_
                      have hFc := fr_new hS hA
                      refine va_calli (va_runS (As := [.long nm60]) (rest := [.ref mo]) ⟨hx, hb, hml, hown, ht⟩ (m_isKept l G cy _  nm60  ) (va_cwS 1 ht (gs k_221 k_222 k_61 k_220) rfl rfl rfl (by decide +kernel) ⟨Nat.le_of_ble_eq_true rfl, Nat.le_of_ble_eq_true rfl⟩) ⟨En.blind, fun U hU hW => ⟨rfl, En.of hU hW (va_P0 (H := _)) hK va_D0 hN⟩⟩ rfl rfl hl.1 rfl (lv_room (Nat.le_of_ble_eq_true rfl)) dX12_goOn_222 ⟨Nat.le_of_ble_eq_true rfl, Nat.le_of_ble_eq_true rfl⟩) hS (fun q _ h => hFc q h) hFc (fun r_u_69 u_69 t9 H locs ht9 hvm hw hB hz1 hk1 hS => ?_)
                      have hP := fr_keep hP hk1
                      have wu_69 := hw
                      clear hFc hk1 hz1 hB hw
                      refine lv_if_eq (tgt := 232) hx hb dX12_goOn_225 (by decide) (fun c_70 => ?_) (fun c_70 => ?_)
                      · have q_71 : r_u_69.toInt = (0 : Int32).toInt := (ow_eq _ _).mp c_70
                        refine lv_iconst (v := 2) hx hb dX12_goOn_232 (by decide) ?_
                        refine mp_8 hx hb ht hown hK hP hD hS dX12_goOn_233 (fun H locs hP hD hS => ?_)
                        have hv := MIv.up 8 hv (ow_any (2 : Int32))
                        have hL : WL (va_up v60 8 2) f := WL.upv 8 hL (by decide)
                        have hR : RI (va_up v60 8 2) f := RI.upv 8 hR (by decide)
                        have hV_0 := FV.up hV_0 8 (2) (by decide)
                        refine lv_goto (tgt := 377) hx hb dX12_goOn_236 (by decide) ?_
                        refine W.widen (k := 0) (n := 0) (Nat.le_of_ble_eq_true rfl) (Nat.le_of_ble_eq_true rfl) ?_
                        exact W.vret hx hb hr (fun t ht9 hW => ⟨⟨((va_up v60 8 2), nm60), rfl, ⟨hv, hV_0, (show (v60 7).toInt ≤ (v 3).toInt ∧ (((2 : Int32).toInt = 0 ∧ (v60 7).toInt = (v 3).toInt) ∨ ((2 : Int32).toInt ≠ 0 ∧ (v 7).toInt < (v60 7).toInt)) from by rw [(show v60 7 = (v53 7) from (hV_60 7 (by decide)))]; first | omega | (subst_vars; first | rfl | omega)), (mz_go he (show (v60 7).toInt ≤ (v 3).toInt from by rw [(show v60 7 = (v53 7) from (hV_60 7 (by decide)))]; omega) (show ((2 : Int32).toInt = 0 ∧ (v60 7).toInt = (v 3).toInt) ∨ ((2 : Int32).toInt ≠ 0 ∧ (v 7).toInt < (v60 7).toInt) from by rw [(show v60 7 = (v53 7) from (hV_60 7 (by decide)))]; omega))⟩, ⟨by rw [ht9]; exact hP, hD⟩⟩, hS.F ht9⟩) hS.2.2 dX12_goOn_377
                      · have q_72 : ¬ r_u_69.toInt = (0 : Int32).toInt := by have := (not_congr (ow_eq _ _)).mp c_70; omega
                        refine lv_iconst (v := 3) hx hb dX12_goOn_228 (by decide) ?_
                        refine lv_goto (tgt := 233) hx hb dX12_goOn_229 (by decide) ?_
                        refine mp_8 hx hb ht hown hK hP hD hS dX12_goOn_233 (fun H locs hP hD hS => ?_)
                        have hv := MIv.up 8 hv (ow_any (3 : Int32))
                        have hL : WL (va_up v60 8 3) f := WL.upv 8 hL (by decide)
                        have hR : RI (va_up v60 8 3) f := RI.upv 8 hR (by decide)
                        have hV_0 := FV.up hV_0 8 (3) (by decide)
                        refine lv_goto (tgt := 377) hx hb dX12_goOn_236 (by decide) ?_
                        refine W.widen (k := 0) (n := 0) (Nat.le_of_ble_eq_true rfl) (Nat.le_of_ble_eq_true rfl) ?_
                        exact W.vret hx hb hr (fun t ht9 hW => ⟨⟨((va_up v60 8 3), nm60), rfl, ⟨hv, hV_0, (show (v60 7).toInt ≤ (v 3).toInt ∧ (((3 : Int32).toInt = 0 ∧ (v60 7).toInt = (v 3).toInt) ∨ ((3 : Int32).toInt ≠ 0 ∧ (v 7).toInt < (v60 7).toInt)) from by rw [(show v60 7 = (v53 7) from (hV_60 7 (by decide)))]; first | omega | (subst_vars; first | rfl | omega)), (mz_go he (show (v60 7).toInt ≤ (v 3).toInt from by rw [(show v60 7 = (v53 7) from (hV_60 7 (by decide)))]; omega) (show ((3 : Int32).toInt = 0 ∧ (v60 7).toInt = (v 3).toInt) ∨ ((3 : Int32).toInt ≠ 0 ∧ (v 7).toInt < (v60 7).toInt) from by rw [(show v60 7 = (v53 7) from (hV_60 7 (by decide)))]; omega))⟩, ⟨by rw [ht9]; exact hP, hD⟩⟩, hS.F ht9⟩) hS.2.2 dX12_goOn_377
                    · have q_73 : (8 : Int32).toInt < v_65.toInt := by have := (not_congr (ow_le _ _)).mp c_67; omega
                      refine lv_iconst (v := 1) hx hb dX12_goOn_214 (by decide) ?_
                      refine lv_goto (tgt := 233) hx hb dX12_goOn_215 (by decide) ?_
                      refine mp_8 hx hb ht hown hK hP hD hS dX12_goOn_233 (fun H locs hP hD hS => ?_)
                      have hv := MIv.up 8 hv (ow_any (1 : Int32))
                      have hL : WL (va_up v60 8 1) f := WL.upv 8 hL (by decide)
                      have hR : RI (va_up v60 8 1) f := RI.upv 8 hR (by decide)
                      have hV_0 := FV.up hV_0 8 (1) (by decide)
                      refine lv_goto (tgt := 377) hx hb dX12_goOn_236 (by decide) ?_
                      refine W.widen (k := 0) (n := 0) (Nat.le_of_ble_eq_true rfl) (Nat.le_of_ble_eq_true rfl) ?_
                      exact W.vret hx hb hr (fun t ht9 hW => ⟨⟨((va_up v60 8 1), nm60), rfl, ⟨hv, hV_0, (show (v60 7).toInt ≤ (v 3).toInt ∧ (((1 : Int32).toInt = 0 ∧ (v60 7).toInt = (v 3).toInt) ∨ ((1 : Int32).toInt ≠ 0 ∧ (v 7).toInt < (v60 7).toInt)) from by rw [(show v60 7 = (v53 7) from (hV_60 7 (by decide)))]; first | omega | (subst_vars; first | rfl | omega)), (mz_go he (show (v60 7).toInt ≤ (v 3).toInt from by rw [(show v60 7 = (v53 7) from (hV_60 7 (by decide)))]; omega) (show ((1 : Int32).toInt = 0 ∧ (v60 7).toInt = (v 3).toInt) ∨ ((1 : Int32).toInt ≠ 0 ∧ (v 7).toInt < (v60 7).toInt) from by rw [(show v60 7 = (v53 7) from (hV_60 7 (by decide)))]; omega))⟩, ⟨by rw [ht9]; exact hP, hD⟩⟩, hS.F ht9⟩) hS.2.2 dX12_goOn_377
                  · have q_74 : x2_60.toInt < (v53 7).toInt := by have := (not_congr (ow_le _ _)).mp c_62; omega
                    refine lv_iload_n hx hb dX12_goOn_164 rfl (lv_at hl 0 rfl) ?_
                    refine lv_aload_n hx hb dX12_goOn_165 rfl (lv_at hl 2 rfl) ?_
                    refine mg_6 hx hb ht hown hK hP dX12_goOn_166 ?_
                    refine ow_top (v1 6) ((hV_60 6 (by decide)).trans (hV_53 6 (by decide))) ?_
                    have q_75 : 0 ≤ (v1 6).toInt ∧ (v1 6).toInt ≤ 1700 := by have h9 : v60 6 = (v1 6) := ((hV_60 6 (by decide)).trans (hV_53 6 (by decide))); rw [← h9]; exact hv 6
                    refine lv_bipush (v := 8) hx hb dX12_goOn_169 (by decide) ?_
                    refine lv_iadd hx hb dX12_goOn_171 ?_
                    refine lv_topi (fun v_76 ev_76 => ?_)
                    have q_77 : v_76.toInt = (v1 6).toInt + (8 : Int32).toInt := ow_add ev_76 (by omega) (by omega)
                    refine lv_icmp_ge (tgt := 199) hx hb dX12_goOn_172 (by decide) (fun c_78 => ?_) (fun c_78 => ?_)
                    · have q_79 : v_76.toInt ≤ x2_60.toInt := (ow_le _ _).mp c_78
                      refine lv_aload_n hx hb dX12_goOn_199 rfl (lv_at hl 2 rfl) ?_
                      refine lv_aload_n hx hb dX12_goOn_200 rfl (lv_at hl 2 rfl) ?_
                      refine mg_7 hx hb ht hown hK hP dX12_goOn_201 ?_
                      refine ow_top (v53 7) (hV_60 7 (by decide)) ?_
                      refine lv_aload_n hx hb dX12_goOn_204 rfl (lv_at hl 2 rfl) ?_
                      refine mg_6 hx hb ht hown hK hP dX12_goOn_205 ?_
                      refine ow_top (v1 6) ((hV_60 6 (by decide)).trans (hV_53 6 (by decide))) ?_
                      refine lv_isub hx hb dX12_goOn_208 ?_
                      refine lv_topi (fun v_80 ev_80 => ?_)
                      have q_81 : v_80.toInt = (v53 7).toInt - (v1 6).toInt := ow_sub ev_80 (by omega) (by omega)
                      refine lv_bipush (v := 8) hx hb dX12_goOn_209 (by decide) ?_
                      refine lv_icmp_le (tgt := 218) hx hb dX12_goOn_211 (by decide) (fun c_82 => ?_) (fun c_82 => ?_)
                      · have q_83 : v_80.toInt ≤ (8 : Int32).toInt := (ow_le _ _).mp c_82
                        refine lv_aload_n hx hb dX12_goOn_218 rfl (lv_at hl 2 rfl) ?_
                        refine mg_10 hx hb ht hown hK hP dX12_goOn_219 ?_
                        have hFc := fr_new hS hA
                        refine va_calli (va_runS (As := [.long nm60]) (rest := [.ref mo]) ⟨hx, hb, hml, hown, ht⟩ (m_isKept l G cy _  nm60  ) (va_cwS 1 ht (gs k_221 k_222 k_61 k_220) rfl rfl rfl (by decide +kernel) ⟨Nat.le_of_ble_eq_true rfl, Nat.le_of_ble_eq_true rfl⟩) ⟨En.blind, fun U hU hW => ⟨rfl, En.of hU hW (va_P0 (H := _)) hK va_D0 hN⟩⟩ rfl rfl hl.1 rfl (lv_room (Nat.le_of_ble_eq_true rfl)) dX12_goOn_222 ⟨Nat.le_of_ble_eq_true rfl, Nat.le_of_ble_eq_true rfl⟩) hS (fun q _ h => hFc q h) hFc (fun r_u_84 u_84 t9 H locs ht9 hvm hw hB hz1 hk1 hS => ?_)
                        have hP := fr_keep hP hk1
                        have wu_84 := hw
                        clear hFc hk1 hz1 hB hw
                        refine lv_if_eq (tgt := 232) hx hb dX12_goOn_225 (by decide) (fun c_85 => ?_) (fun c_85 => ?_)
                        · have q_86 : r_u_84.toInt = (0 : Int32).toInt := (ow_eq _ _).mp c_85
                          refine lv_iconst (v := 2) hx hb dX12_goOn_232 (by decide) ?_
                          refine mp_8 hx hb ht hown hK hP hD hS dX12_goOn_233 (fun H locs hP hD hS => ?_)
                          have hv := MIv.up 8 hv (ow_any (2 : Int32))
                          have hL : WL (va_up v60 8 2) f := WL.upv 8 hL (by decide)
                          have hR : RI (va_up v60 8 2) f := RI.upv 8 hR (by decide)
                          have hV_0 := FV.up hV_0 8 (2) (by decide)
                          refine lv_goto (tgt := 377) hx hb dX12_goOn_236 (by decide) ?_
                          refine W.widen (k := 0) (n := 0) (Nat.le_of_ble_eq_true rfl) (Nat.le_of_ble_eq_true rfl) ?_
                          exact W.vret hx hb hr (fun t ht9 hW => ⟨⟨((va_up v60 8 2), nm60), rfl, ⟨hv, hV_0, (show (v60 7).toInt ≤ (v 3).toInt ∧ (((2 : Int32).toInt = 0 ∧ (v60 7).toInt = (v 3).toInt) ∨ ((2 : Int32).toInt ≠ 0 ∧ (v 7).toInt < (v60 7).toInt)) from by rw [(show v60 7 = (v53 7) from (hV_60 7 (by decide)))]; first | omega | (subst_vars; first | rfl | omega)), (mz_go he (show (v60 7).toInt ≤ (v 3).toInt from by rw [(show v60 7 = (v53 7) from (hV_60 7 (by decide)))]; omega) (show ((2 : Int32).toInt = 0 ∧ (v60 7).toInt = (v 3).toInt) ∨ ((2 : Int32).toInt ≠ 0 ∧ (v 7).toInt < (v60 7).toInt) from by rw [(show v60 7 = (v53 7) from (hV_60 7 (by decide)))]; omega))⟩, ⟨by rw [ht9]; exact hP, hD⟩⟩, hS.F ht9⟩) hS.2.2 dX12_goOn_377
                        · have q_87 : ¬ r_u_84.toInt = (0 : Int32).toInt := by have := (not_congr (ow_eq _ _)).mp c_85; omega
                          refine lv_iconst (v := 3) hx hb dX12_goOn_228 (by decide) ?_
                          refine lv_goto (tgt := 233) hx hb dX12_goOn_229 (by decide) ?_
                          refine mp_8 hx hb ht hown hK hP hD hS dX12_goOn_233 (fun H locs hP hD hS => ?_)
                          have hv := MIv.up 8 hv (ow_any (3 : Int32))
                          have hL : WL (va_up v60 8 3) f := WL.upv 8 hL (by decide)
                          have hR : RI (va_up v60 8 3) f := RI.upv 8 hR (by decide)
                          have hV_0 := FV.up hV_0 8 (3) (by decide)
                          refine lv_goto (tgt := 377) hx hb dX12_goOn_236 (by decide) ?_
                          refine W.widen (k := 0) (n := 0) (Nat.le_of_ble_eq_true rfl) (Nat.le_of_ble_eq_true rfl) ?_
                          exact W.vret hx hb hr (fun t ht9 hW => ⟨⟨((va_up v60 8 3), nm60), rfl, ⟨hv, hV_0, (show (v60 7).toInt ≤ (v 3).toInt ∧ (((3 : Int32).toInt = 0 ∧ (v60 7).toInt = (v 3).toInt) ∨ ((3 : Int32).toInt ≠ 0 ∧ (v 7).toInt < (v60 7).toInt)) from by rw [(show v60 7 = (v53 7) from (hV_60 7 (by decide)))]; first | omega | (subst_vars; first | rfl | omega)), (mz_go he (show (v60 7).toInt ≤ (v 3).toInt from by rw [(show v60 7 = (v53 7) from (hV_60 7 (by decide)))]; omega) (show ((3 : Int32).toInt = 0 ∧ (v60 7).toInt = (v 3).toInt) ∨ ((3 : Int32).toInt ≠ 0 ∧ (v 7).toInt < (v60 7).toInt) from by rw [(show v60 7 = (v53 7) from (hV_60 7 (by decide)))]; omega))⟩, ⟨by rw [ht9]; exact hP, hD⟩⟩, hS.F ht9⟩) hS.2.2 dX12_goOn_377
                      · have q_88 : (8 : Int32).toInt < v_80.toInt := by have := (not_congr (ow_le _ _)).mp c_82; omega
                        refine lv_iconst (v := 1) hx hb dX12_goOn_214 (by decide) ?_
                        refine lv_goto (tgt := 233) hx hb dX12_goOn_215 (by decide) ?_
                        refine mp_8 hx hb ht hown hK hP hD hS dX12_goOn_233 (fun H locs hP hD hS => ?_)
                        have hv := MIv.up 8 hv (ow_any (1 : Int32))
                        have hL : WL (va_up v60 8 1) f := WL.upv 8 hL (by decide)
                        have hR : RI (va_up v60 8 1) f := RI.upv 8 hR (by decide)
                        have hV_0 := FV.up hV_0 8 (1) (by decide)
                        refine lv_goto (tgt := 377) hx hb dX12_goOn_236 (by decide) ?_
                        refine W.widen (k := 0) (n := 0) (Nat.le_of_ble_eq_true rfl) (Nat.le_of_ble_eq_true rfl) ?_
                        exact W.vret hx hb hr (fun t ht9 hW => ⟨⟨((va_up v60 8 1), nm60), rfl, ⟨hv, hV_0, (show (v60 7).toInt ≤ (v 3).toInt ∧ (((1 : Int32).toInt = 0 ∧ (v60 7).toInt = (v 3).toInt) ∨ ((1 : Int32).toInt ≠ 0 ∧ (v 7).toInt < (v60 7).toInt)) from by rw [(show v60 7 = (v53 7) from (hV_60 7 (by decide)))]; first | omega | (subst_vars; first | rfl | omega)), (mz_go he (show (v60 7).toInt ≤ (v 3).toInt from by rw [(show v60 7 = (v53 7) from (hV_60 7 (by decide)))]; omega) (show ((1 : Int32).toInt = 0 ∧ (v60 7).toInt = (v 3).toInt) ∨ ((1 : Int32).toInt ≠ 0 ∧ (v 7).toInt < (v60 7).toInt) from by rw [(show v60 7 = (v53 7) from (hV_60 7 (by decide)))]; omega))⟩, ⟨by rw [ht9]; exact hP, hD⟩⟩, hS.F ht9⟩) hS.2.2 dX12_goOn_377
                    · have q_89 : x2_60.toInt < v_76.toInt := by have := (not_congr (ow_le _ _)).mp c_78; omega
                      refine lv_aload_n hx hb dX12_goOn_175 rfl (lv_at hl 2 rfl) ?_
                      refine lv_aload_n hx hb dX12_goOn_176 rfl (lv_at hl 2 rfl) ?_
                      refine mg_10 hx hb ht hown hK hP dX12_goOn_177 ?_
                      refine lv_bipush (v := 8) hx hb dX12_goOn_180 (by decide) ?_
                      refine lv_lshl hx hb dX12_goOn_182 rfl ?_
                      refine lv_topl (fun v_90 ev_90 => ?_)
                      refine lv_aload_n hx hb dX12_goOn_183 rfl (lv_at hl 2 rfl) ?_
                      refine lv_iload_n hx hb dX12_goOn_184 rfl (lv_at hl 0 rfl) ?_
                      have hFc := fr_new hS hA
                      refine va_calli (va_runV (As := [.int x2_60]) (rest := [.long v_90, .ref mo]) ⟨hx, hb, hml, hown, ht⟩ (m_sign l G cy _ mo h T v60 nm60 f g x2_60  hv hf hR hL (by omega)) (cwV 1 ht (gv k_207 k_208 k_209 k_61 k_206) rfl rfl rfl (by decide +kernel) ⟨Nat.le_of_ble_eq_true rfl, Nat.le_of_ble_eq_true rfl⟩) ⟨En.blind, va_recv hK hP (ci := 12) (q0 := 0) rfl rfl, fun U hU hW => ⟨rfl, En.of hU hW hP hK hD hN⟩⟩ rfl rfl hl.1 rfl (lv_room (Nat.le_of_ble_eq_true rfl)) dX12_goOn_185 ⟨Nat.le_of_ble_eq_true rfl, Nat.le_of_ble_eq_true rfl⟩) hS (fun q _ h => hFc q h) hFc (fun r_u_91 u_91 t9 H locs ht9 hvm hw hB hz1 hk1 hS => ?_)
                      have hP := fr_keep hP hk1
                      have wu_91 := hw
                      clear hFc hk1 hz1 hB hw
                      have wu_91 : (0 ≤ r_u_91.toInt ∧ r_u_91.toInt ≤ 255) ∧ (r_u_91.toInt = sgn (v 3).toInt (f 1) x2_60.toInt ∧ (r_u_91.toInt = 0 ∨ x2_60.toInt < (v 3).toInt)) := by
                        have h9 : (0 ≤ r_u_91.toInt ∧ r_u_91.toInt ≤ 255) ∧ (r_u_91.toInt = sgn (v60 3).toInt (f 1) x2_60.toInt ∧ (r_u_91.toInt = 0 ∨ x2_60.toInt < (v60 3).toInt)) := wu_91
                        rw [(show v60 3 = (v 3) from ((hV_60 3 (by decide)).trans ((hV_53 3 (by decide)).trans (hV_1 3 (by decide)))))] at h9
                        exact h9
                      refine lv_i2l hx hb dX12_goOn_188 rfl ?_
                      refine lv_topl (fun v_92 ev_92 => ?_)
                      refine lv_lor hx hb dX12_goOn_189 ?_
                      refine lv_topl (fun v_93 ev_93 => ?_)
                      refine mp_10 hx hb ht hown hK hP hD hS dX12_goOn_190 (fun H locs hP hD hS => ?_)
                      obtain ⟨v_94, ev_94⟩ : ∃ y : Int32, y = x2_60 + 1 := ⟨_, rfl⟩
                      refine lv_iinc (v := v_94) (lv' := [(2, .int v_94), (1, .int r_u_3), (0, .ref mo)]) hx hb dX12_goOn_193 hl (k := 0) rfl (by rw [ev_94]; rfl) (by decide) rfl (fun ls hl => ?_)
                      have q_95 : v_94.toInt = x2_60.toInt + 1 := by have := ow_add ev_94 (by omega) (by omega); omega
                      refine lv_goto (tgt := 156) hx hb dX12_goOn_196 (by decide) ?_
                      refine W.widen (k := 0) (n := 0) (Nat.le_of_ble_eq_true rfl) (Nat.le_of_ble_eq_true rfl) ?_
                      exact ih_60 v_94 v60 v_93 _ _ _ hv hW_60 (by omega) (show ((v53 7).toInt - v_94.toInt).toNat < N_60 from by omega) hP hD hS (lv_sub hl [0, 1, 2] rfl)
              exact lp_60 _ (v1 6) v53 (0 : Int64) _ _ _ hv FV.rf (by omega) (Nat.lt_succ_self _) hP hD hS (lv_sub hl [0, 1, 2] rfl)
            · have q_96 : ¬ r_u_56.toInt = (0 : Int32).toInt := by have := (not_congr (ow_eq _ _)).mp c_57; omega
              refine lv_aload_n hx hb dX12_goOn_133 rfl (lv_at hl 1 rfl) ?_
              refine lv_dup hx hb dX12_goOn_134 rfl ?_
              refine mg_7 hx hb ht hown hK hP dX12_goOn_135 ?_
              refine lv_iconst (v := 1) hx hb dX12_goOn_138 (by decide) ?_
              refine lv_iadd hx hb dX12_goOn_139 ?_
              refine lv_topi (fun v_97 ev_97 => ?_)
              have q_98 : v_97.toInt = (v53 7).toInt + (1 : Int32).toInt := ow_add ev_97 (by omega) (by omega)
              refine mp_7 hx hb ht hown hK hP hD hS dX12_goOn_140 (fun H locs hP hD hS => ?_)
              have hv := MIv.up 7 hv (show 0 ≤ v_97.toInt ∧ v_97.toInt ≤ 1701 from by omega)
              have hL : WL (va_up v53 7 v_97) f := WL.upv 7 hL (by decide)
              have hR : RI (va_up v53 7 v_97) f := RI.upv 7 hR (by decide)
              have hV_0 := FV.up hV_0 7 v_97 (by decide)
              have hW_53 := FV.up hW_53 7 v_97 (by decide)
              refine lv_goto (tgt := 119) hx hb dX12_goOn_143 (by decide) ?_
              refine W.widen (k := 0) (n := 0) (Nat.le_of_ble_eq_true rfl) (Nat.le_of_ble_eq_true rfl) ?_
              exact ih_53 (va_up v53 7 v_97) nm53 _ _ _ hv hW_53 (show (v1 6).toInt + 1 ≤ v_97.toInt ∧ v_97.toInt ≤ (v 3).toInt from by omega) (show ((v 3).toInt - v_97.toInt).toNat < N_53 from by omega) hP hD hS (lv_sub hl [0, 1] rfl)
        exact lp_53 _ (va_up v1 7 v_4) nm1 _ _ _ hv FV.rf (show (v1 6).toInt + 1 ≤ v_4.toInt ∧ v_4.toInt ≤ (v 3).toInt from by omega) (Nat.lt_succ_self _) hP hD hS (lv_sub hl [0, 1] rfl)
    · have q_99 : (v 3).toInt ≤ (v1 6).toInt := by have := (not_congr (ow_lt _ _)).mp c_7; omega
      refine lv_aload_n hx hb dX12_goOn_88 rfl (lv_at hl 1 rfl) ?_
      refine lv_iconst (v := 0) hx hb dX12_goOn_89 (by decide) ?_
      refine mp_8 hx hb ht hown hK hP hD hS dX12_goOn_90 (fun H locs hP hD hS => ?_)
      have hv := MIv.up 8 hv (ow_any (0 : Int32))
      have hL : WL (va_up (va_up v1 7 v_4) 8 0) f := WL.upv 8 hL (by decide)
      have hR : RI (va_up (va_up v1 7 v_4) 8 0) f := RI.upv 8 hR (by decide)
      have hV_0 := FV.up hV_0 8 (0) (by decide)
      refine lv_aload_n hx hb dX12_goOn_93 rfl (lv_at hl 1 rfl) ?_
      refine lv_aload_n hx hb dX12_goOn_94 rfl (lv_at hl 1 rfl) ?_
      refine mg_3 hx hb ht hown hK hP dX12_goOn_95 ?_
      refine ow_top (v 3) (hV_1 3 (by decide)) ?_
      refine mp_6 hx hb ht hown hK hP hD hS dX12_goOn_98 (fun H locs hP hD hS => ?_)
      have hv := MIv.up 6 hv (show 0 ≤ (v 3).toInt ∧ (v 3).toInt ≤ 1700 from by omega)
      have hL : WL (va_up (va_up (va_up v1 7 v_4) 8 0) 6 (v 3)) f := WL.upv 6 hL (by decide)
      have hR : RI (va_up (va_up (va_up v1 7 v_4) 8 0) 6 (v 3)) f := RI.upv 6 hR (by decide)
      have hV_0 := FV.up hV_0 6 (v 3) (by decide)
      refine lv_aload_n hx hb dX12_goOn_101 rfl (lv_at hl 1 rfl) ?_
      refine lv_aload_n hx hb dX12_goOn_102 rfl (lv_at hl 1 rfl) ?_
      refine mg_3 hx hb ht hown hK hP dX12_goOn_103 ?_
      refine ow_top (v 3) (hV_1 3 (by decide)) ?_
      refine mp_7 hx hb ht hown hK hP hD hS dX12_goOn_106 (fun H locs hP hD hS => ?_)
      have hv := MIv.up 7 hv (show 0 ≤ (v 3).toInt ∧ (v 3).toInt ≤ 1701 from by omega)
      have hL : WL (va_up (va_up (va_up (va_up v1 7 v_4) 8 0) 6 (v 3)) 7 (v 3)) f := WL.upv 7 hL (by decide)
      have hR : RI (va_up (va_up (va_up (va_up v1 7 v_4) 8 0) 6 (v 3)) 7 (v 3)) f := RI.upv 7 hR (by decide)
      have hV_0 := FV.up hV_0 7 (v 3) (by decide)
      refine lv_goto (tgt := 377) hx hb dX12_goOn_109 (by decide) ?_
      refine W.widen (k := 0) (n := 0) (Nat.le_of_ble_eq_true rfl) (Nat.le_of_ble_eq_true rfl) ?_
      exact W.vret hx hb hr (fun t ht9 hW => ⟨⟨((va_up (va_up (va_up (va_up v1 7 v_4) 8 0) 6 (v 3)) 7 (v 3)), nm1), rfl, ⟨hv, hV_0, (show (v 3).toInt ≤ (v 3).toInt ∧ (((0 : Int32).toInt = 0 ∧ (v 3).toInt = (v 3).toInt) ∨ ((0 : Int32).toInt ≠ 0 ∧ (v 7).toInt < (v 3).toInt)) from by first | omega | (subst_vars; first | rfl | omega)), (mz_go he (show (v 3).toInt ≤ (v 3).toInt from by omega) (show ((0 : Int32).toInt = 0 ∧ (v 3).toInt = (v 3).toInt) ∨ ((0 : Int32).toInt ≠ 0 ∧ (v 7).toInt < (v 3).toInt) from by omega))⟩, ⟨by rw [ht9]; exact hP, hD⟩⟩, hS.F ht9⟩) hS.2.2 dX12_goOn_377
  have hW_1 : FV [6] v v := FV.rf
  refine lv_aload_n hx hb dX12_goOn_0 rfl (lv_at hl 0 rfl) ?_
  refine lv_aload_n hx hb dX12_goOn_1 rfl (lv_at hl 0 rfl) ?_
  refine mg_7 hx hb ht hown hK hP dX12_goOn_2 ?_
  have q_100 : 0 ≤ (v 7).toInt ∧ (v 7).toInt ≤ 1701 := hv 7
  refine mp_6 hx hb ht hown hK hP hD hS dX12_goOn_5 (fun H locs hP hD hS => ?_)
  have hv := MIv.up 6 hv (show 0 ≤ (v 7).toInt ∧ (v 7).toInt ≤ 1700 from by omega)
  have hL : WL (va_up v 6 (v 7)) f := WL.upv 6 hL (by decide)
  have hR : RI (va_up v 6 (v 7)) f := RI.upv 6 hR (by decide)
  have hV_0 := FV.up hV_0 6 (v 7) (by decide)
  have hW_1 := FV.up hW_1 6 (v 7) (by decide)
  refine W.widen (k := 0) (n := 0) (Nat.le_of_ble_eq_true rfl) (Nat.le_of_ble_eq_true rfl) ?_
  have lp_101 : ∀ (N_101 : Nat) (v101 : Nat → Int32) (nm101 : Int64) (H : Heap) (locs : List Loc) (ls : Array Slot), MIv T v101 → FV [6] (va_up v 6 (v 7)) v101 → ((v 7).toInt ≤ (v101 6).toInt ∧ (v101 6).toInt ≤ (v 3).toInt) → ((v 3).toInt - (v101 6).toInt).toNat < N_101 → va_P G vwCl (WMs cy mo h v101 nm101 f g) H → va_D A (WMs cy mo h v101 nm101 f g) → va_S A s.heap H locs → lv_has ls 3 [(0, .ref mo)] → W p l e (headSpec (.code yX12_goOn cX12_goOn 3 none :: TBg) ({ frames := 2, cells := 0, slots := 0, locals := 128 })).room s m ([.ref mo] : List Value).toArray below meth c H locs 0 0 (MQ below (va_Qv (fun (u : (Nat → Int32) × Int64) => MIv T u.1 ∧ FV [6, 7, 8, 9] v u.1 ∧ (((u.1 7).toInt ≤ (v 3).toInt ∧ (((u.1 8).toInt = 0 ∧ (u.1 7).toInt = (v 3).toInt) ∨ ((u.1 8).toInt ≠ 0 ∧ (v 7).toInt < (u.1 7).toInt)))) ∧ (0 ≤ mz (v 3).toInt (u.1 7).toInt (u.1 8).toInt ∧ mz (v 3).toInt (u.1 7).toInt (u.1 8).toInt ≤ mz (v 3).toInt (v 7).toInt (v 8).toInt ∧ ((v 8).toInt = 0 ∨ mz (v 3).toInt (u.1 7).toInt (u.1 8).toInt < mz (v 3).toInt (v 7).toInt (v 8).toInt))) (fun u t => Ex G A (WMs cy mo h u.1 u.2 f g) t) A) ([.ref mo] : List Value).toArray s 0 0 A) (F0 m 8 ls []) := by
    intro N_101
    induction N_101 with
    | zero => intro v101 nm101 H locs ls hv hV_101 qf101_0 hm hP hD hS hl; exact absurd hm (Nat.not_lt_zero _)
    | succ N_101 ih_101 =>
      intro v101 nm101 H locs ls hv hV_101 qf101_0 hm hP hD hS hl
      have hR : RI v101 f := RI.fv hR hV_101 (by decide)
      have hL : WL v101 f := WL.fv hL hV_101 (by decide) (by decide)
      have hV_0 := FV.tr hV_0 hV_101 (by decide)
      have hW_1 := FV.tr hW_1 hV_101 (by decide)
      have hW_101 := hV_101
      refine lv_aload_n hx hb dX12_goOn_8 rfl (lv_at hl 0 rfl) ?_
      refine mg_6 hx hb ht hown hK hP dX12_goOn_9 ?_
      have q_102 : 0 ≤ (v101 6).toInt ∧ (v101 6).toInt ≤ 1700 := hv 6
      refine lv_aload_n hx hb dX12_goOn_12 rfl (lv_at hl 0 rfl) ?_
      refine mg_3 hx hb ht hown hK hP dX12_goOn_13 ?_
      refine ow_top (v 3) (hV_101 3 (by decide)) ?_
      have q_103 : 0 ≤ (v 3).toInt ∧ (v 3).toInt ≤ 1700 := by have h9 : v101 3 = (v 3) := (hV_101 3 (by decide)); rw [← h9]; exact hv 3
      refine lv_icmp_ge (tgt := 58) hx hb dX12_goOn_16 (by decide) (fun c_104 => ?_) (fun c_104 => ?_)
      · have q_105 : (v 3).toInt ≤ (v101 6).toInt := (ow_le _ _).mp c_104
        refine W.widen (k := 0) (n := 0) (Nat.le_of_ble_eq_true rfl) (Nat.le_of_ble_eq_true rfl) ?_
        exact jn_1 v101 nm101 _ _ _ hv hW_1 (show (v 7).toInt ≤ (v101 6).toInt ∧ (v101 6).toInt ≤ (v 3).toInt from by omega) hP hD hS (lv_sub hl [0] rfl)
      · have q_106 : (v101 6).toInt < (v 3).toInt := by have := (not_congr (ow_le _ _)).mp c_104; omega
        refine lv_aload_n hx hb dX12_goOn_19 rfl (lv_at hl 0 rfl) ?_
        refine lv_aload_n hx hb dX12_goOn_20 rfl (lv_at hl 0 rfl) ?_
        refine mg_6 hx hb ht hown hK hP dX12_goOn_21 ?_
        have hFc := fr_new hS hA
        refine va_calli (va_runV (As := [.int (v101 6)]) (rest := []) ⟨hx, hb, hml, hown, ht⟩ (m_sign l G cy _ mo h T v101 nm101 f g (v101 6)  hv hf hR hL (by omega)) (cwV 1 ht (gv k_207 k_208 k_209 k_61 k_206) rfl rfl rfl (by decide +kernel) ⟨Nat.le_of_ble_eq_true rfl, Nat.le_of_ble_eq_true rfl⟩) ⟨En.blind, va_recv hK hP (ci := 12) (q0 := 0) rfl rfl, fun U hU hW => ⟨rfl, En.of hU hW hP hK hD hN⟩⟩ rfl rfl hl.1 rfl (lv_room (Nat.le_of_ble_eq_true rfl)) dX12_goOn_24 ⟨Nat.le_of_ble_eq_true rfl, Nat.le_of_ble_eq_true rfl⟩) hS (fun q _ h => hFc q h) hFc (fun r_u_107 u_107 t9 H locs ht9 hvm hw hB hz1 hk1 hS => ?_)
        have hP := fr_keep hP hk1
        have wu_107 := hw
        clear hFc hk1 hz1 hB hw
        have wu_107 : (0 ≤ r_u_107.toInt ∧ r_u_107.toInt ≤ 255) ∧ (r_u_107.toInt = sgn (v 3).toInt (f 1) (v101 6).toInt ∧ (r_u_107.toInt = 0 ∨ (v101 6).toInt < (v 3).toInt)) := by
          have h9 : (0 ≤ r_u_107.toInt ∧ r_u_107.toInt ≤ 255) ∧ (r_u_107.toInt = sgn (v101 3).toInt (f 1) (v101 6).toInt ∧ (r_u_107.toInt = 0 ∨ (v101 6).toInt < (v101 3).toInt)) := wu_107
          rw [(show v101 3 = (v 3) from (hV_101 3 (by decide)))] at h9
          exact h9
        refine lv_bipush (v := 32) hx hb dX12_goOn_27 (by decide) ?_
        refine lv_icmp_eq (tgt := 45) hx hb dX12_goOn_29 (by decide) (fun c_108 => ?_) (fun c_108 => ?_)
        · have q_109 : r_u_107.toInt = (32 : Int32).toInt := (ow_eq _ _).mp c_108
          refine lv_aload_n hx hb dX12_goOn_45 rfl (lv_at hl 0 rfl) ?_
          refine lv_dup hx hb dX12_goOn_46 rfl ?_
          refine mg_6 hx hb ht hown hK hP dX12_goOn_47 ?_
          refine lv_iconst (v := 1) hx hb dX12_goOn_50 (by decide) ?_
          refine lv_iadd hx hb dX12_goOn_51 ?_
          refine lv_topi (fun v_110 ev_110 => ?_)
          have q_111 : v_110.toInt = (v101 6).toInt + (1 : Int32).toInt := ow_add ev_110 (by omega) (by omega)
          refine mp_6 hx hb ht hown hK hP hD hS dX12_goOn_52 (fun H locs hP hD hS => ?_)
          have hv := MIv.up 6 hv (show 0 ≤ v_110.toInt ∧ v_110.toInt ≤ 1700 from by omega)
          have hL : WL (va_up v101 6 v_110) f := WL.upv 6 hL (by decide)
          have hR : RI (va_up v101 6 v_110) f := RI.upv 6 hR (by decide)
          have hV_0 := FV.up hV_0 6 v_110 (by decide)
          have hW_1 := FV.up hW_1 6 v_110 (by decide)
          have hW_101 := FV.up hW_101 6 v_110 (by decide)
          refine lv_goto (tgt := 8) hx hb dX12_goOn_55 (by decide) ?_
          refine W.widen (k := 0) (n := 0) (Nat.le_of_ble_eq_true rfl) (Nat.le_of_ble_eq_true rfl) ?_
          exact ih_101 (va_up v101 6 v_110) nm101 _ _ _ hv hW_101 (show (v 7).toInt ≤ v_110.toInt ∧ v_110.toInt ≤ (v 3).toInt from by omega) (show ((v 3).toInt - v_110.toInt).toNat < N_101 from by omega) hP hD hS (lv_sub hl [0] rfl)
        · have q_112 : ¬ r_u_107.toInt = (32 : Int32).toInt := by have := (not_congr (ow_eq _ _)).mp c_108; omega
          refine lv_aload_n hx hb dX12_goOn_32 rfl (lv_at hl 0 rfl) ?_
          refine lv_aload_n hx hb dX12_goOn_33 rfl (lv_at hl 0 rfl) ?_
          refine mg_6 hx hb ht hown hK hP dX12_goOn_34 ?_
          have hFc := fr_new hS hA
          refine va_calli (va_runV (As := [.int (v101 6)]) (rest := []) ⟨hx, hb, hml, hown, ht⟩ (m_sign l G cy _ mo h T v101 nm101 f g (v101 6)  hv hf hR hL (by omega)) (cwV 1 ht (gv k_207 k_208 k_209 k_61 k_206) rfl rfl rfl (by decide +kernel) ⟨Nat.le_of_ble_eq_true rfl, Nat.le_of_ble_eq_true rfl⟩) ⟨En.blind, va_recv hK hP (ci := 12) (q0 := 0) rfl rfl, fun U hU hW => ⟨rfl, En.of hU hW hP hK hD hN⟩⟩ rfl rfl hl.1 rfl (lv_room (Nat.le_of_ble_eq_true rfl)) dX12_goOn_37 ⟨Nat.le_of_ble_eq_true rfl, Nat.le_of_ble_eq_true rfl⟩) hS (fun q _ h => hFc q h) hFc (fun r_u_113 u_113 t9 H locs ht9 hvm hw hB hz1 hk1 hS => ?_)
          have hP := fr_keep hP hk1
          have wu_113 := hw
          clear hFc hk1 hz1 hB hw
          have wu_113 : (0 ≤ r_u_113.toInt ∧ r_u_113.toInt ≤ 255) ∧ (r_u_113.toInt = sgn (v 3).toInt (f 1) (v101 6).toInt ∧ (r_u_113.toInt = 0 ∨ (v101 6).toInt < (v 3).toInt)) := by
            have h9 : (0 ≤ r_u_113.toInt ∧ r_u_113.toInt ≤ 255) ∧ (r_u_113.toInt = sgn (v101 3).toInt (f 1) (v101 6).toInt ∧ (r_u_113.toInt = 0 ∨ (v101 6).toInt < (v101 3).toInt)) := wu_113
            rw [(show v101 3 = (v 3) from (hV_101 3 (by decide)))] at h9
            exact h9
          refine lv_bipush (v := 10) hx hb dX12_goOn_40 (by decide) ?_
          refine lv_icmp_ne (tgt := 58) hx hb dX12_goOn_42 (by decide) (fun c_114 => ?_) (fun c_114 => ?_)
          · have q_115 : ¬ r_u_113.toInt = (10 : Int32).toInt := by have := (not_congr (ow_eq _ _)).mp c_114; omega
            refine W.widen (k := 0) (n := 0) (Nat.le_of_ble_eq_true rfl) (Nat.le_of_ble_eq_true rfl) ?_
            exact jn_1 v101 nm101 _ _ _ hv hW_1 (show (v 7).toInt ≤ (v101 6).toInt ∧ (v101 6).toInt ≤ (v 3).toInt from by omega) hP hD hS (lv_sub hl [0] rfl)
          · have q_116 : r_u_113.toInt = (10 : Int32).toInt := (ow_eq _ _).mp c_114
            refine lv_aload_n hx hb dX12_goOn_45 rfl (lv_at hl 0 rfl) ?_
            refine lv_dup hx hb dX12_goOn_46 rfl ?_
            refine mg_6 hx hb ht hown hK hP dX12_goOn_47 ?_
            refine lv_iconst (v := 1) hx hb dX12_goOn_50 (by decide) ?_
            refine lv_iadd hx hb dX12_goOn_51 ?_
            refine lv_topi (fun v_117 ev_117 => ?_)
            have q_118 : v_117.toInt = (v101 6).toInt + (1 : Int32).toInt := ow_add ev_117 (by omega) (by omega)
            refine mp_6 hx hb ht hown hK hP hD hS dX12_goOn_52 (fun H locs hP hD hS => ?_)
            have hv := MIv.up 6 hv (show 0 ≤ v_117.toInt ∧ v_117.toInt ≤ 1700 from by omega)
            have hL : WL (va_up v101 6 v_117) f := WL.upv 6 hL (by decide)
            have hR : RI (va_up v101 6 v_117) f := RI.upv 6 hR (by decide)
            have hV_0 := FV.up hV_0 6 v_117 (by decide)
            have hW_1 := FV.up hW_1 6 v_117 (by decide)
            have hW_101 := FV.up hW_101 6 v_117 (by decide)
            refine lv_goto (tgt := 8) hx hb dX12_goOn_55 (by decide) ?_
            refine W.widen (k := 0) (n := 0) (Nat.le_of_ble_eq_true rfl) (Nat.le_of_ble_eq_true rfl) ?_
            exact ih_101 (va_up v101 6 v_117) nm101 _ _ _ hv hW_101 (show (v 7).toInt ≤ v_117.toInt ∧ v_117.toInt ≤ (v 3).toInt from by omega) (show ((v 3).toInt - v_117.toInt).toNat < N_101 from by omega) hP hD hS (lv_sub hl [0] rfl)
  exact lp_101 _ (va_up v 6 (v 7)) nm _ _ _ hv FV.rf (show (v 7).toInt ≤ (v 7).toInt ∧ (v 7).toInt ≤ (v 3).toInt from by omega) (Nat.lt_succ_self _) hP hD hS (lv_sub hl [0] rfl)
set_option maxHeartbeats 4000000 in
set_option maxRecDepth 100000 in
theorem m_must (l : Launch) (G : va_G) (cy : Nat → ClassId) (sz : Nat) (mo : Nat) (h : Nat → Nat) (T : Int) (v : Nat → Int32) (nm : Int64) (f : Nat → Nat → Int32) (g : Nat → Nat → Int64) (n : Int32)  (hv : MIv T v) (hf : MIf f) (hR : RI v f) (hL : WL v f) (h_n : 0 ≤ n.toInt ∧ n.toInt ≤ 1) (he : (v 7).toInt ≤ (v 3).toInt) : Met l yX12_must (.code yX12_must cX12_must 2 none :: TBg) ({ frames := 3, cells := 0, slots := 0, locals := 192 }) (va_Pc [.ref mo, .int n] (En G cy (WMs cy mo h v nm f g) sz)) (va_Qv (fun (u : (Nat → Int32) × Int64) => MIv T u.1 ∧ FV [4, 5, 6, 7, 8, 9] v u.1 ∧ (((u.1 7).toInt ≤ (v 3).toInt ∧ ((u.1 4).toInt ≠ 0 ∨ (v 4).toInt = 0))) ∧ (0 ≤ mz (v 3).toInt (u.1 7).toInt (u.1 8).toInt ∧ mz (v 3).toInt (u.1 7).toInt (u.1 8).toInt ≤ mz (v 3).toInt (v 7).toInt (v 8).toInt)) (fun u t => Ex G (va_A (WMs cy mo h v nm f g) sz) (WMs cy mo h u.1 u.2 f g) t) (va_A (WMs cy mo h v nm f g) sz)) 0 0 (va_A (WMs cy mo h v nm f g) sz) := by
  refine Met.ofW (cc := cX12_must) (maxL := 2) (ret := none) (by decide) rfl ?_
  intro p e s m args below meth c s₁ B hml hv9
  obtain ⟨rfl, hsz, hP, hK, hD0, hN⟩ := hv9
  have hx := B.exec
  have hb := B.bytes
  have hr := B.returns
  have hts := atoms_spec (ws := .code yX12_must cX12_must 2 none :: TBg) B.pre
  have ht : ∀ w ∈ TBg, w.before _ s = true := fun w h => hts w (List.mem_cons_of_mem _ h)
  have hown : s.vm.findClass RX12 = some m.cls := findClass_of_methodNamed B.named
  have hlocks := B.notSynchronized
  subst hsz
  have hD := hD0.self (sz := s.heap.size)
  generalize hAe : va_A (WMs cy mo h v nm f g) s.heap.size = A at hD ⊢
  have hA : ∀ q : Nat, s.heap.size ≤ q → A q := fun q h => by rw [← hAe]; exact Or.inr h
  have hS : va_S A s.heap s.heap [] := va_S.rf
  have hl := lv_entry ([.ref mo, .int n]) (n := 2) (Nat.le_of_ble_eq_true rfl)
  rw [lg_entry_eq]
  generalize (lg_sl ([.ref mo, .int n]) ++ List.replicate (2 - (lg_sl ([.ref mo, .int n])).length) Slot.unset).toArray = ls at hl ⊢
  have hl : lv_has ls 2 [(0, .ref mo), (1, .int n)] := hl
  have z0 : (0 : Int32).toInt = 0 := by decide
  have hf_0 := hf
  have hV_0 : FV [4, 5, 6, 7, 8, 9] v v := FV.rf
  have hmz0 : 0 ≤ mz (v 3).toInt (v 7).toInt (v 8).toInt := mz_nn he
  refine lv_aload_n hx hb dX12_must_0 rfl (lv_at hl 0 rfl) ?_
  have hFc := fr_new hS hA
  refine va_calli (va_runV (As := []) (rest := []) ⟨hx, hb, hml, hown, ht⟩ (m_isGood l G cy _ mo h T v nm f g   hv hf hR hL) (cwV 0 ht (gv k_224 k_225 k_226 k_61 k_223) rfl rfl rfl (by decide +kernel) ⟨Nat.le_of_ble_eq_true rfl, Nat.le_of_ble_eq_true rfl⟩) ⟨En.blind, va_recv hK hP (ci := 12) (q0 := 0) rfl rfl, fun U hU hW => ⟨rfl, En.of hU hW hP hK hD hN⟩⟩ rfl rfl hl.1 rfl (lv_room (Nat.le_of_ble_eq_true rfl)) dX12_must_1 ⟨Nat.le_of_ble_eq_true rfl, Nat.le_of_ble_eq_true rfl⟩) hS (fun q _ h => hFc q h) hFc (fun r_u_1 u_1 t9 H locs ht9 hvm hw hB hz1 hk1 hS => ?_)
  have hP := fr_keep hP hk1
  have wu_1 := hw
  clear hFc hk1 hz1 hB hw
  refine lv_if_ne (tgt := 8) hx hb dX12_must_4 (by decide) (fun c_2 => ?_) (fun c_2 => ?_)
  · have q_3 : ¬ r_u_1.toInt = (0 : Int32).toInt := by have := (not_congr (ow_eq _ _)).mp c_2; omega
    refine lv_iload_n hx hb dX12_must_8 rfl (lv_at hl 1 rfl) ?_
    refine lv_if_eq (tgt := 19) hx hb dX12_must_9 (by decide) (fun c_4 => ?_) (fun c_4 => ?_)
    · have q_5 : n.toInt = (0 : Int32).toInt := (ow_eq _ _).mp c_4
      refine lv_aload_n hx hb dX12_must_19 rfl (lv_at hl 0 rfl) ?_
      have hFc := fr_free hD hS hA
      refine va_callv (va_runV (As := []) (rest := []) ⟨hx, hb, hml, hown, ht⟩ (m_misplaced l G cy _ mo h T v nm f g   hv hf hR hL) (cwV 0 ht (gv k_228 k_229 k_230 k_61 k_227) rfl rfl rfl (by decide +kernel) ⟨Nat.le_of_ble_eq_true rfl, Nat.le_of_ble_eq_true rfl⟩) ⟨En.blind, va_recv hK hP (ci := 12) (q0 := 0) rfl rfl, fun U hU hW => ⟨rfl, En.of hU hW hP hK hD hN⟩⟩ rfl rfl hl.1 rfl (lv_room (Nat.le_of_ble_eq_true rfl)) dX12_must_20 ⟨Nat.le_of_ble_eq_true rfl, Nat.le_of_ble_eq_true rfl⟩) hS (fun q _ h => hFc q h) hFc (fun u_6 t9 H locs ht9 hvm hw hB hz1 hk1 hS => ?_)
      obtain ⟨v6, nm6⟩ := u_6
      obtain ⟨hP1, hD1⟩ := hB
      rw [ht9] at hP1
      obtain ⟨hv, xu_6V, wu_6⟩ := hw
      dsimp only at hv xu_6V wu_6
      have hP : va_P G vwCl (WMs cy mo h v6 nm6 f g) H := hP1
      have hD : va_D A (WMs cy mo h v6 nm6 f g) := hD1.weaken (fun _ _ _ h => hFc _ h)
      have hR : RI v6 f := RI.fv hR xu_6V (by decide)
      have hL : WL v6 f := WL.fv hL xu_6V (by decide) (by decide)
      have hV_0 := FV.tr hV_0 xu_6V (by decide)
      clear hFc hk1 hz1 hP1 hD1
      have wu_6 : (1 ≤ (v6 4).toInt) := wu_6
      refine W.widen (k := 0) (n := 0) (Nat.le_of_ble_eq_true rfl) (Nat.le_of_ble_eq_true rfl) ?_
      exact W.vret hx hb hr (fun t ht9 hW => ⟨⟨(v6, nm6), rfl, ⟨hv, hV_0, (show (v6 7).toInt ≤ (v 3).toInt ∧ ((v6 4).toInt ≠ 0 ∨ (v 4).toInt = 0) from by rw [(show v6 7 = (v 7) from (xu_6V 7 (by decide)))]; first | omega | (subst_vars; first | rfl | omega)), (show 0 ≤ mz (v 3).toInt (v6 7).toInt (v6 8).toInt ∧ mz (v 3).toInt (v6 7).toInt (v6 8).toInt ≤ mz (v 3).toInt (v 7).toInt (v 8).toInt from by rw [(show v6 7 = (v 7) from (xu_6V 7 (by decide))), (show v6 8 = (v 8) from (xu_6V 8 (by decide)))]; omega)⟩, ⟨by rw [ht9]; exact hP, hD⟩⟩, hS.F ht9⟩) hS.2.2 dX12_must_23
    · have q_7 : ¬ n.toInt = (0 : Int32).toInt := by have := (not_congr (ow_eq _ _)).mp c_4; omega
      refine lv_aload_n hx hb dX12_must_12 rfl (lv_at hl 0 rfl) ?_
      have hFc := fr_free hD hS hA
      refine va_callv (va_runV (As := []) (rest := []) ⟨hx, hb, hml, hown, ht⟩ (m_goOn l G cy _ mo h T v nm f g   hv hf hR hL (show (v 7).toInt ≤ (v 3).toInt from by omega)) (cwV 0 ht (gv k_232 k_233 k_234 k_61 k_231) rfl rfl rfl (by decide +kernel) ⟨Nat.le_of_ble_eq_true rfl, Nat.le_of_ble_eq_true rfl⟩) ⟨En.blind, va_recv hK hP (ci := 12) (q0 := 0) rfl rfl, fun U hU hW => ⟨rfl, En.of hU hW hP hK hD hN⟩⟩ rfl rfl hl.1 rfl (lv_room (Nat.le_of_ble_eq_true rfl)) dX12_must_13 ⟨Nat.le_of_ble_eq_true rfl, Nat.le_of_ble_eq_true rfl⟩) hS (fun q _ h => hFc q h) hFc (fun u_8 t9 H locs ht9 hvm hw hB hz1 hk1 hS => ?_)
      obtain ⟨v8, nm8⟩ := u_8
      obtain ⟨hP1, hD1⟩ := hB
      rw [ht9] at hP1
      obtain ⟨hv, xu_8V, wu_8, xu_8_M⟩ := hw
      dsimp only at hv xu_8V wu_8 xu_8_M
      have hP : va_P G vwCl (WMs cy mo h v8 nm8 f g) H := hP1
      have hD : va_D A (WMs cy mo h v8 nm8 f g) := hD1.weaken (fun _ _ _ h => hFc _ h)
      have hR : RI v8 f := RI.fv hR xu_8V (by decide)
      have hL : WL v8 f := WL.fv hL xu_8V (by decide) (by decide)
      have hV_0 := FV.tr hV_0 xu_8V (by decide)
      clear hFc hk1 hz1 hP1 hD1
      have wu_8 : ((v8 7).toInt ≤ (v 3).toInt ∧ (((v8 8).toInt = 0 ∧ (v8 7).toInt = (v 3).toInt) ∨ ((v8 8).toInt ≠ 0 ∧ (v 7).toInt < (v8 7).toInt))) := wu_8
      have xu_8_M : 0 ≤ mz (v 3).toInt (v8 7).toInt (v8 8).toInt ∧ mz (v 3).toInt (v8 7).toInt (v8 8).toInt ≤ mz (v 3).toInt (v 7).toInt (v 8).toInt ∧ ((v 8).toInt = 0 ∨ mz (v 3).toInt (v8 7).toInt (v8 8).toInt < mz (v 3).toInt (v 7).toInt (v 8).toInt) := by
        have h9 : 0 ≤ mz (v 3).toInt (v8 7).toInt (v8 8).toInt ∧ mz (v 3).toInt (v8 7).toInt (v8 8).toInt ≤ mz (v 3).toInt (v 7).toInt (v 8).toInt ∧ ((v 8).toInt = 0 ∨ mz (v 3).toInt (v8 7).toInt (v8 8).toInt < mz (v 3).toInt (v 7).toInt (v 8).toInt) := xu_8_M
        exact h9
      refine lv_goto (tgt := 23) hx hb dX12_must_16 (by decide) ?_
      refine W.widen (k := 0) (n := 0) (Nat.le_of_ble_eq_true rfl) (Nat.le_of_ble_eq_true rfl) ?_
      exact W.vret hx hb hr (fun t ht9 hW => ⟨⟨(v8, nm8), rfl, ⟨hv, hV_0, (show (v8 7).toInt ≤ (v 3).toInt ∧ ((v8 4).toInt ≠ 0 ∨ (v 4).toInt = 0) from by rw [(show v8 4 = (v 4) from (xu_8V 4 (by decide)))]; first | omega | (subst_vars; first | rfl | omega)), (show 0 ≤ mz (v 3).toInt (v8 7).toInt (v8 8).toInt ∧ mz (v 3).toInt (v8 7).toInt (v8 8).toInt ≤ mz (v 3).toInt (v 7).toInt (v 8).toInt from by omega)⟩, ⟨by rw [ht9]; exact hP, hD⟩⟩, hS.F ht9⟩) hS.2.2 dX12_must_23
  · have q_9 : r_u_1.toInt = (0 : Int32).toInt := (ow_eq _ _).mp c_2
    refine W.widen (k := 0) (n := 0) (Nat.le_of_ble_eq_true rfl) (Nat.le_of_ble_eq_true rfl) ?_
    exact W.vret hx hb hr (fun t ht9 hW => ⟨⟨(v, nm), rfl, ⟨hv, hV_0, (show (v 7).toInt ≤ (v 3).toInt ∧ ((v 4).toInt ≠ 0 ∨ (v 4).toInt = 0) from by first | omega | (subst_vars; first | rfl | omega)), (show 0 ≤ mz (v 3).toInt (v 7).toInt (v 8).toInt ∧ mz (v 3).toInt (v 7).toInt (v 8).toInt ≤ mz (v 3).toInt (v 7).toInt (v 8).toInt from by omega)⟩, ⟨by rw [ht9]; exact hP, hD⟩⟩, hS.F ht9⟩) hS.2.2 dX12_must_7
set_option maxHeartbeats 4000000 in
set_option maxRecDepth 100000 in
theorem m_numeral (l : Launch) (G : va_G) (cy : Nat → ClassId) (sz : Nat) (mo : Nat) (h : Nat → Nat) (T : Int) (v : Nat → Int32) (nm : Int64) (f : Nat → Nat → Int32) (g : Nat → Nat → Int64) (n : Int32) (n2 : Int32)  (hv : MIv T v) (hf : MIf f) (hR : RI v f) (hL : WL v f) (hle : n.toInt ≤ n2.toInt) (he : (v 7).toInt ≤ (v 3).toInt) : Met l yX12_numeral (.code yX12_numeral cX12_numeral 4 (some .int) :: TBg) ({ frames := 3, cells := 0, slots := 0, locals := 192 }) (va_Pc [.ref mo, .int n, .int n2] (En G cy (WMs cy mo h v nm f g) sz)) (va_Qi (fun (r : Int32) (u : (Nat → Int32) × Int64) => MIv T u.1 ∧ FV [4, 5, 6, 7, 8, 9] v u.1 ∧ ((n.toInt ≤ r.toInt ∧ r.toInt ≤ n2.toInt ∧ (u.1 7).toInt ≤ (v 3).toInt ∧ ((u.1 4).toInt ≠ 0 ∨ ((v 4).toInt = 0 ∧ (v 8).toInt = 4)))) ∧ (0 ≤ mz (v 3).toInt (u.1 7).toInt (u.1 8).toInt ∧ mz (v 3).toInt (u.1 7).toInt (u.1 8).toInt ≤ mz (v 3).toInt (v 7).toInt (v 8).toInt ∧ ((u.1 4).toInt ≠ 0 ∨ mz (v 3).toInt (u.1 7).toInt (u.1 8).toInt < mz (v 3).toInt (v 7).toInt (v 8).toInt))) (fun u t => Ex G (va_A (WMs cy mo h v nm f g) sz) (WMs cy mo h u.1 u.2 f g) t) (va_A (WMs cy mo h v nm f g) sz)) 0 0 (va_A (WMs cy mo h v nm f g) sz) := by
  refine Met.ofW (cc := cX12_numeral) (maxL := 4) (ret := (some .int)) (by decide) rfl ?_
  intro p e s m args below meth c s₁ B hml hv9
  obtain ⟨rfl, hsz, hP, hK, hD0, hN⟩ := hv9
  have hx := B.exec
  have hb := B.bytes
  have hr := B.returns
  have hts := atoms_spec (ws := .code yX12_numeral cX12_numeral 4 (some .int) :: TBg) B.pre
  have ht : ∀ w ∈ TBg, w.before _ s = true := fun w h => hts w (List.mem_cons_of_mem _ h)
  have hown : s.vm.findClass RX12 = some m.cls := findClass_of_methodNamed B.named
  have hlocks := B.notSynchronized
  subst hsz
  have hD := hD0.self (sz := s.heap.size)
  generalize hAe : va_A (WMs cy mo h v nm f g) s.heap.size = A at hD ⊢
  have hA : ∀ q : Nat, s.heap.size ≤ q → A q := fun q h => by rw [← hAe]; exact Or.inr h
  have hS : va_S A s.heap s.heap [] := va_S.rf
  have hl := lv_entry ([.ref mo, .int n, .int n2]) (n := 4) (Nat.le_of_ble_eq_true rfl)
  rw [lg_entry_eq]
  generalize (lg_sl ([.ref mo, .int n, .int n2]) ++ List.replicate (4 - (lg_sl ([.ref mo, .int n, .int n2])).length) Slot.unset).toArray = ls at hl ⊢
  have hl : lv_has ls 4 [(0, .ref mo), (1, .int n), (2, .int n2)] := hl
  have z0 : (0 : Int32).toInt = 0 := by decide
  have z1 : (4 : Int32).toInt = 4 := by decide
  have hf_0 := hf
  have hV_0 : FV [4, 5, 6, 7, 8, 9] v v := FV.rf
  have hmz0 : 0 ≤ mz (v 3).toInt (v 7).toInt (v 8).toInt := mz_nn he
  refine lv_aload_n hx hb dX12_numeral_0 rfl (lv_at hl 0 rfl) ?_
  have hFc := fr_new hS hA
  refine va_calli (va_runV (As := []) (rest := []) ⟨hx, hb, hml, hown, ht⟩ (m_isGood l G cy _ mo h T v nm f g   hv hf hR hL) (cwV 0 ht (gv k_224 k_225 k_226 k_61 k_223) rfl rfl rfl (by decide +kernel) ⟨Nat.le_of_ble_eq_true rfl, Nat.le_of_ble_eq_true rfl⟩) ⟨En.blind, va_recv hK hP (ci := 12) (q0 := 0) rfl rfl, fun U hU hW => ⟨rfl, En.of hU hW hP hK hD hN⟩⟩ rfl rfl hl.1 rfl (lv_room (Nat.le_of_ble_eq_true rfl)) dX12_numeral_1 ⟨Nat.le_of_ble_eq_true rfl, Nat.le_of_ble_eq_true rfl⟩) hS (fun q _ h => hFc q h) hFc (fun r_u_1 u_1 t9 H locs ht9 hvm hw hB hz1 hk1 hS => ?_)
  have hP := fr_keep hP hk1
  have wu_1 := hw
  clear hFc hk1 hz1 hB hw
  refine lv_if_ne (tgt := 9) hx hb dX12_numeral_4 (by decide) (fun c_2 => ?_) (fun c_2 => ?_)
  · have q_3 : ¬ r_u_1.toInt = (0 : Int32).toInt := by have := (not_congr (ow_eq _ _)).mp c_2; omega
    refine lv_aload_n hx hb dX12_numeral_9 rfl (lv_at hl 0 rfl) ?_
    refine mg_8 hx hb ht hown hK hP dX12_numeral_10 ?_
    refine lv_iconst (v := 4) hx hb dX12_numeral_13 (by decide) ?_
    refine lv_icmp_eq (tgt := 21) hx hb dX12_numeral_14 (by decide) (fun c_4 => ?_) (fun c_4 => ?_)
    · have q_5 : (v 8).toInt = (4 : Int32).toInt := (ow_eq _ _).mp c_4
      refine lv_aload_n hx hb dX12_numeral_21 rfl (lv_at hl 0 rfl) ?_
      have hFc := fr_new hS hA
      refine va_calli (va_runV (As := []) (rest := []) ⟨hx, hb, hml, hown, ht⟩ (m_isGood l G cy _ mo h T v nm f g   hv hf hR hL) (cwV 0 ht (gv k_224 k_225 k_226 k_61 k_223) rfl rfl rfl (by decide +kernel) ⟨Nat.le_of_ble_eq_true rfl, Nat.le_of_ble_eq_true rfl⟩) ⟨En.blind, va_recv hK hP (ci := 12) (q0 := 0) rfl rfl, fun U hU hW => ⟨rfl, En.of hU hW hP hK hD hN⟩⟩ rfl rfl hl.1 rfl (lv_room (Nat.le_of_ble_eq_true rfl)) dX12_numeral_22 ⟨Nat.le_of_ble_eq_true rfl, Nat.le_of_ble_eq_true rfl⟩) hS (fun q _ h => hFc q h) hFc (fun r_u_6 u_6 t9 H locs ht9 hvm hw hB hz1 hk1 hS => ?_)
      have hP := fr_keep hP hk1
      have wu_6 := hw
      clear hFc hk1 hz1 hB hw
      refine lv_if_eq (tgt := 53) hx hb dX12_numeral_25 (by decide) (fun c_7 => ?_) (fun c_7 => ?_)
      · have q_8 : r_u_6.toInt = (0 : Int32).toInt := (ow_eq _ _).mp c_7
        refine lv_aload_n hx hb dX12_numeral_53 rfl (lv_at hl 0 rfl) ?_
        refine mg_9 hx hb ht hown hK hP dX12_numeral_54 ?_
        refine lv_istore_n (lv' := [(3, .int (v 9)), (0, .ref mo), (1, .int n), (2, .int n2)]) hx hb dX12_numeral_57 rfl hl (by decide) rfl (fun ls hl => ?_)
        refine lv_aload_n hx hb dX12_numeral_58 rfl (lv_at hl 1 rfl) ?_
        have hFc := fr_new hS hA
        refine va_calli (va_runV (As := []) (rest := []) ⟨hx, hb, hml, hown, ht⟩ (m_isGood l G cy _ mo h T v nm f g   hv hf hR hL) (cwV 0 ht (gv k_224 k_225 k_226 k_61 k_223) rfl rfl rfl (by decide +kernel) ⟨Nat.le_of_ble_eq_true rfl, Nat.le_of_ble_eq_true rfl⟩) ⟨En.blind, va_recv hK hP (ci := 12) (q0 := 0) rfl rfl, fun U hU hW => ⟨rfl, En.of hU hW hP hK hD hN⟩⟩ rfl rfl hl.1 rfl (lv_room (Nat.le_of_ble_eq_true rfl)) dX12_numeral_59 ⟨Nat.le_of_ble_eq_true rfl, Nat.le_of_ble_eq_true rfl⟩) hS (fun q _ h => hFc q h) hFc (fun r_u_9 u_9 t9 H locs ht9 hvm hw hB hz1 hk1 hS => ?_)
        have hP := fr_keep hP hk1
        have wu_9 := hw
        clear hFc hk1 hz1 hB hw
        refine lv_if_eq (tgt := 69) hx hb dX12_numeral_62 (by decide) (fun c_10 => ?_) (fun c_10 => ?_)
        · have q_11 : r_u_9.toInt = (0 : Int32).toInt := (ow_eq _ _).mp c_10
          refine lv_aload_n hx hb dX12_numeral_69 rfl (lv_at hl 1 rfl) ?_
          have hFc := fr_new hS hA
          refine va_calli (va_runV (As := []) (rest := []) ⟨hx, hb, hml, hown, ht⟩ (m_isGood l G cy _ mo h T v nm f g   hv hf hR hL) (cwV 0 ht (gv k_224 k_225 k_226 k_61 k_223) rfl rfl rfl (by decide +kernel) ⟨Nat.le_of_ble_eq_true rfl, Nat.le_of_ble_eq_true rfl⟩) ⟨En.blind, va_recv hK hP (ci := 12) (q0 := 0) rfl rfl, fun U hU hW => ⟨rfl, En.of hU hW hP hK hD hN⟩⟩ rfl rfl hl.1 rfl (lv_room (Nat.le_of_ble_eq_true rfl)) dX12_numeral_70 ⟨Nat.le_of_ble_eq_true rfl, Nat.le_of_ble_eq_true rfl⟩) hS (fun q _ h => hFc q h) hFc (fun r_u_12 u_12 t9 H locs ht9 hvm hw hB hz1 hk1 hS => ?_)
          have hP := fr_keep hP hk1
          have wu_12 := hw
          clear hFc hk1 hz1 hB hw
          refine lv_if_eq (tgt := 80) hx hb dX12_numeral_73 (by decide) (fun c_13 => ?_) (fun c_13 => ?_)
          · have q_14 : r_u_12.toInt = (0 : Int32).toInt := (ow_eq _ _).mp c_13
            refine lv_iload_n hx hb dX12_numeral_80 rfl (lv_at hl 2 rfl) ?_
            refine W.widen (k := 0) (n := 0) (Nat.le_of_ble_eq_true rfl) (Nat.le_of_ble_eq_true rfl) ?_
            exact W.iret (v := n) hx hb hr (fun t ht9 hW => ⟨⟨n, (v, nm), rfl, ⟨hv, hV_0, (show n.toInt ≤ n.toInt ∧ n.toInt ≤ n2.toInt ∧ (v 7).toInt ≤ (v 3).toInt ∧ ((v 4).toInt ≠ 0 ∨ ((v 4).toInt = 0 ∧ (v 8).toInt = 4)) from by first | omega | (subst_vars; first | rfl | omega)), (show 0 ≤ mz (v 3).toInt (v 7).toInt (v 8).toInt ∧ mz (v 3).toInt (v 7).toInt (v 8).toInt ≤ mz (v 3).toInt (v 7).toInt (v 8).toInt ∧ ((v 4).toInt ≠ 0 ∨ mz (v 3).toInt (v 7).toInt (v 8).toInt < mz (v 3).toInt (v 7).toInt (v 8).toInt) from by omega)⟩, ⟨by rw [ht9]; exact hP, hD⟩⟩, hS.F ht9⟩) hS.2.2 dX12_numeral_81
          · have q_15 : ¬ r_u_12.toInt = (0 : Int32).toInt := by have := (not_congr (ow_eq _ _)).mp c_13; omega
            refine lv_iload_n hx hb dX12_numeral_76 rfl (lv_at hl 0 rfl) ?_
            refine lv_goto (tgt := 81) hx hb dX12_numeral_77 (by decide) ?_
            refine W.widen (k := 0) (n := 0) (Nat.le_of_ble_eq_true rfl) (Nat.le_of_ble_eq_true rfl) ?_
            exact W.iret (v := (v 9)) hx hb hr (fun t ht9 hW => ⟨⟨(v 9), (v, nm), rfl, ⟨hv, hV_0, (show n.toInt ≤ (v 9).toInt ∧ (v 9).toInt ≤ n2.toInt ∧ (v 7).toInt ≤ (v 3).toInt ∧ ((v 4).toInt ≠ 0 ∨ ((v 4).toInt = 0 ∧ (v 8).toInt = 4)) from by first | omega | (subst_vars; first | rfl | omega)), (show 0 ≤ mz (v 3).toInt (v 7).toInt (v 8).toInt ∧ mz (v 3).toInt (v 7).toInt (v 8).toInt ≤ mz (v 3).toInt (v 7).toInt (v 8).toInt ∧ ((v 4).toInt ≠ 0 ∨ mz (v 3).toInt (v 7).toInt (v 8).toInt < mz (v 3).toInt (v 7).toInt (v 8).toInt) from by omega)⟩, ⟨by rw [ht9]; exact hP, hD⟩⟩, hS.F ht9⟩) hS.2.2 dX12_numeral_81
        · have q_16 : ¬ r_u_9.toInt = (0 : Int32).toInt := by have := (not_congr (ow_eq _ _)).mp c_10; omega
          refine lv_aload_n hx hb dX12_numeral_65 rfl (lv_at hl 1 rfl) ?_
          have hFc := fr_free hD hS hA
          refine va_callv (va_runV (As := []) (rest := []) ⟨hx, hb, hml, hown, ht⟩ (m_goOn l G cy _ mo h T v nm f g   hv hf hR hL (show (v 7).toInt ≤ (v 3).toInt from by omega)) (cwV 0 ht (gv k_232 k_233 k_234 k_61 k_231) rfl rfl rfl (by decide +kernel) ⟨Nat.le_of_ble_eq_true rfl, Nat.le_of_ble_eq_true rfl⟩) ⟨En.blind, va_recv hK hP (ci := 12) (q0 := 0) rfl rfl, fun U hU hW => ⟨rfl, En.of hU hW hP hK hD hN⟩⟩ rfl rfl hl.1 rfl (lv_room (Nat.le_of_ble_eq_true rfl)) dX12_numeral_66 ⟨Nat.le_of_ble_eq_true rfl, Nat.le_of_ble_eq_true rfl⟩) hS (fun q _ h => hFc q h) hFc (fun u_17 t9 H locs ht9 hvm hw hB hz1 hk1 hS => ?_)
          obtain ⟨v17, nm17⟩ := u_17
          obtain ⟨hP1, hD1⟩ := hB
          rw [ht9] at hP1
          obtain ⟨hv, xu_17V, wu_17, xu_17_M⟩ := hw
          dsimp only at hv xu_17V wu_17 xu_17_M
          have hP : va_P G vwCl (WMs cy mo h v17 nm17 f g) H := hP1
          have hD : va_D A (WMs cy mo h v17 nm17 f g) := hD1.weaken (fun _ _ _ h => hFc _ h)
          have hR : RI v17 f := RI.fv hR xu_17V (by decide)
          have hL : WL v17 f := WL.fv hL xu_17V (by decide) (by decide)
          have hV_0 := FV.tr hV_0 xu_17V (by decide)
          clear hFc hk1 hz1 hP1 hD1
          have wu_17 : ((v17 7).toInt ≤ (v 3).toInt ∧ (((v17 8).toInt = 0 ∧ (v17 7).toInt = (v 3).toInt) ∨ ((v17 8).toInt ≠ 0 ∧ (v 7).toInt < (v17 7).toInt))) := wu_17
          have xu_17_M : 0 ≤ mz (v 3).toInt (v17 7).toInt (v17 8).toInt ∧ mz (v 3).toInt (v17 7).toInt (v17 8).toInt ≤ mz (v 3).toInt (v 7).toInt (v 8).toInt ∧ ((v 8).toInt = 0 ∨ mz (v 3).toInt (v17 7).toInt (v17 8).toInt < mz (v 3).toInt (v 7).toInt (v 8).toInt) := by
            have h9 : 0 ≤ mz (v 3).toInt (v17 7).toInt (v17 8).toInt ∧ mz (v 3).toInt (v17 7).toInt (v17 8).toInt ≤ mz (v 3).toInt (v 7).toInt (v 8).toInt ∧ ((v 8).toInt = 0 ∨ mz (v 3).toInt (v17 7).toInt (v17 8).toInt < mz (v 3).toInt (v 7).toInt (v 8).toInt) := xu_17_M
            exact h9
          refine lv_aload_n hx hb dX12_numeral_69 rfl (lv_at hl 1 rfl) ?_
          have hFc := fr_new hS hA
          refine va_calli (va_runV (As := []) (rest := []) ⟨hx, hb, hml, hown, ht⟩ (m_isGood l G cy _ mo h T v17 nm17 f g   hv hf hR hL) (cwV 0 ht (gv k_224 k_225 k_226 k_61 k_223) rfl rfl rfl (by decide +kernel) ⟨Nat.le_of_ble_eq_true rfl, Nat.le_of_ble_eq_true rfl⟩) ⟨En.blind, va_recv hK hP (ci := 12) (q0 := 0) rfl rfl, fun U hU hW => ⟨rfl, En.of hU hW hP hK hD hN⟩⟩ rfl rfl hl.1 rfl (lv_room (Nat.le_of_ble_eq_true rfl)) dX12_numeral_70 ⟨Nat.le_of_ble_eq_true rfl, Nat.le_of_ble_eq_true rfl⟩) hS (fun q _ h => hFc q h) hFc (fun r_u_18 u_18 t9 H locs ht9 hvm hw hB hz1 hk1 hS => ?_)
          have hP := fr_keep hP hk1
          have wu_18 := hw
          clear hFc hk1 hz1 hB hw
          have wu_18 : (r_u_18.toInt = 0 ∨ r_u_18.toInt = 1) ∧ ((r_u_18.toInt = 1 ∧ (v 4).toInt = 0) ∨ (r_u_18.toInt = 0 ∧ (v 4).toInt ≠ 0)) := by
            have h9 : (r_u_18.toInt = 0 ∨ r_u_18.toInt = 1) ∧ ((r_u_18.toInt = 1 ∧ (v17 4).toInt = 0) ∨ (r_u_18.toInt = 0 ∧ (v17 4).toInt ≠ 0)) := wu_18
            rw [(show v17 4 = (v 4) from (xu_17V 4 (by decide)))] at h9
            exact h9
          refine lv_if_eq (tgt := 80) hx hb dX12_numeral_73 (by decide) (fun c_19 => ?_) (fun c_19 => ?_)
          · have q_20 : r_u_18.toInt = (0 : Int32).toInt := (ow_eq _ _).mp c_19
            refine lv_iload_n hx hb dX12_numeral_80 rfl (lv_at hl 2 rfl) ?_
            refine W.widen (k := 0) (n := 0) (Nat.le_of_ble_eq_true rfl) (Nat.le_of_ble_eq_true rfl) ?_
            exact W.iret (v := n) hx hb hr (fun t ht9 hW => ⟨⟨n, (v17, nm17), rfl, ⟨hv, hV_0, (show n.toInt ≤ n.toInt ∧ n.toInt ≤ n2.toInt ∧ (v17 7).toInt ≤ (v 3).toInt ∧ ((v17 4).toInt ≠ 0 ∨ ((v 4).toInt = 0 ∧ (v 8).toInt = 4)) from by rw [(show v17 4 = (v 4) from (xu_17V 4 (by decide)))]; first | omega | (subst_vars; first | rfl | omega)), (show 0 ≤ mz (v 3).toInt (v17 7).toInt (v17 8).toInt ∧ mz (v 3).toInt (v17 7).toInt (v17 8).toInt ≤ mz (v 3).toInt (v 7).toInt (v 8).toInt ∧ ((v17 4).toInt ≠ 0 ∨ mz (v 3).toInt (v17 7).toInt (v17 8).toInt < mz (v 3).toInt (v 7).toInt (v 8).toInt) from by rw [(show v17 4 = (v 4) from (xu_17V 4 (by decide)))]; omega)⟩, ⟨by rw [ht9]; exact hP, hD⟩⟩, hS.F ht9⟩) hS.2.2 dX12_numeral_81
          · have q_21 : ¬ r_u_18.toInt = (0 : Int32).toInt := by have := (not_congr (ow_eq _ _)).mp c_19; omega
            refine lv_iload_n hx hb dX12_numeral_76 rfl (lv_at hl 0 rfl) ?_
            refine lv_goto (tgt := 81) hx hb dX12_numeral_77 (by decide) ?_
            refine W.widen (k := 0) (n := 0) (Nat.le_of_ble_eq_true rfl) (Nat.le_of_ble_eq_true rfl) ?_
            exact W.iret (v := (v 9)) hx hb hr (fun t ht9 hW => ⟨⟨(v 9), (v17, nm17), rfl, ⟨hv, hV_0, (show n.toInt ≤ (v 9).toInt ∧ (v 9).toInt ≤ n2.toInt ∧ (v17 7).toInt ≤ (v 3).toInt ∧ ((v17 4).toInt ≠ 0 ∨ ((v 4).toInt = 0 ∧ (v 8).toInt = 4)) from by rw [(show v17 4 = (v 4) from (xu_17V 4 (by decide)))]; first | omega | (subst_vars; first | rfl | omega)), (show 0 ≤ mz (v 3).toInt (v17 7).toInt (v17 8).toInt ∧ mz (v 3).toInt (v17 7).toInt (v17 8).toInt ≤ mz (v 3).toInt (v 7).toInt (v 8).toInt ∧ ((v17 4).toInt ≠ 0 ∨ mz (v 3).toInt (v17 7).toInt (v17 8).toInt < mz (v 3).toInt (v 7).toInt (v 8).toInt) from by rw [(show v17 4 = (v 4) from (xu_17V 4 (by decide)))]; omega)⟩, ⟨by rw [ht9]; exact hP, hD⟩⟩, hS.F ht9⟩) hS.2.2 dX12_numeral_81
      · have q_22 : ¬ r_u_6.toInt = (0 : Int32).toInt := by have := (not_congr (ow_eq _ _)).mp c_7; omega
        refine lv_aload_n hx hb dX12_numeral_28 rfl (lv_at hl 0 rfl) ?_
        refine mg_9 hx hb ht hown hK hP dX12_numeral_29 ?_
        refine lv_iload_n hx hb dX12_numeral_32 rfl (lv_at hl 1 rfl) ?_
        refine lv_icmp_lt (tgt := 44) hx hb dX12_numeral_33 (by decide) (fun c_23 => ?_) (fun c_23 => ?_)
        · have q_24 : (v 9).toInt < n.toInt := (ow_lt _ _).mp c_23
          refine lv_aload_n hx hb dX12_numeral_44 rfl (lv_at hl 0 rfl) ?_
          refine lv_iconst (v := 4) hx hb dX12_numeral_45 (by decide) ?_
          refine lv_aload_n hx hb dX12_numeral_46 rfl (lv_at hl 0 rfl) ?_
          refine mg_6 hx hb ht hown hK hP dX12_numeral_47 ?_
          have q_25 : 0 ≤ (v 6).toInt ∧ (v 6).toInt ≤ 1700 := hv 6
          have hFc := fr_free hD hS hA
          refine va_callv (va_runV (As := [.int 4, .int (v 6)]) (rest := []) ⟨hx, hb, hml, hown, ht⟩ (m_fails l G cy _ mo h T v nm f g (4) (v 6)  hv hf hR hL (by omega)) (cwV 2 ht (gv k_211 k_212 k_213 k_61 k_210) rfl rfl rfl (by decide +kernel) ⟨Nat.le_of_ble_eq_true rfl, Nat.le_of_ble_eq_true rfl⟩) ⟨En.blind, va_recv hK hP (ci := 12) (q0 := 0) rfl rfl, fun U hU hW => ⟨rfl, En.of hU hW hP hK hD hN⟩⟩ rfl rfl hl.1 rfl (lv_room (Nat.le_of_ble_eq_true rfl)) dX12_numeral_50 ⟨Nat.le_of_ble_eq_true rfl, Nat.le_of_ble_eq_true rfl⟩) hS (fun q _ h => hFc q h) hFc (fun u_26 t9 H locs ht9 hvm hw hB hz1 hk1 hS => ?_)
          obtain ⟨v26, nm26⟩ := u_26
          obtain ⟨hP1, hD1⟩ := hB
          rw [ht9] at hP1
          obtain ⟨hv, xu_26V, wu_26⟩ := hw
          dsimp only at hv xu_26V wu_26
          have hP : va_P G vwCl (WMs cy mo h v26 nm26 f g) H := hP1
          have hD : va_D A (WMs cy mo h v26 nm26 f g) := hD1.weaken (fun _ _ _ h => hFc _ h)
          have hR : RI v26 f := RI.fv hR xu_26V (by decide)
          have hL : WL v26 f := WL.fv hL xu_26V (by decide) (by decide)
          have hV_0 := FV.tr hV_0 xu_26V (by decide)
          clear hFc hk1 hz1 hP1 hD1
          have wu_26 : (1 ≤ (v26 4).toInt) := wu_26
          refine lv_aload_n hx hb dX12_numeral_53 rfl (lv_at hl 0 rfl) ?_
          refine mg_9 hx hb ht hown hK hP dX12_numeral_54 ?_
          refine ow_top (v 9) (xu_26V 9 (by decide)) ?_
          refine lv_istore_n (lv' := [(3, .int (v 9)), (0, .ref mo), (1, .int n), (2, .int n2)]) hx hb dX12_numeral_57 rfl hl (by decide) rfl (fun ls hl => ?_)
          refine lv_aload_n hx hb dX12_numeral_58 rfl (lv_at hl 1 rfl) ?_
          have hFc := fr_new hS hA
          refine va_calli (va_runV (As := []) (rest := []) ⟨hx, hb, hml, hown, ht⟩ (m_isGood l G cy _ mo h T v26 nm26 f g   hv hf hR hL) (cwV 0 ht (gv k_224 k_225 k_226 k_61 k_223) rfl rfl rfl (by decide +kernel) ⟨Nat.le_of_ble_eq_true rfl, Nat.le_of_ble_eq_true rfl⟩) ⟨En.blind, va_recv hK hP (ci := 12) (q0 := 0) rfl rfl, fun U hU hW => ⟨rfl, En.of hU hW hP hK hD hN⟩⟩ rfl rfl hl.1 rfl (lv_room (Nat.le_of_ble_eq_true rfl)) dX12_numeral_59 ⟨Nat.le_of_ble_eq_true rfl, Nat.le_of_ble_eq_true rfl⟩) hS (fun q _ h => hFc q h) hFc (fun r_u_27 u_27 t9 H locs ht9 hvm hw hB hz1 hk1 hS => ?_)
          have hP := fr_keep hP hk1
          have wu_27 := hw
          clear hFc hk1 hz1 hB hw
          have wu_27 : (r_u_27.toInt = 0 ∨ r_u_27.toInt = 1) ∧ ((r_u_27.toInt = 1 ∧ (v26 4).toInt = 0) ∨ (r_u_27.toInt = 0 ∧ (v26 4).toInt ≠ 0)) := wu_27
          refine lv_if_eq (tgt := 69) hx hb dX12_numeral_62 (by decide) (fun c_28 => ?_) (fun c_28 => ?_)
          · have q_29 : r_u_27.toInt = (0 : Int32).toInt := (ow_eq _ _).mp c_28
            refine lv_aload_n hx hb dX12_numeral_69 rfl (lv_at hl 1 rfl) ?_
            have hFc := fr_new hS hA
            refine va_calli (va_runV (As := []) (rest := []) ⟨hx, hb, hml, hown, ht⟩ (m_isGood l G cy _ mo h T v26 nm26 f g   hv hf hR hL) (cwV 0 ht (gv k_224 k_225 k_226 k_61 k_223) rfl rfl rfl (by decide +kernel) ⟨Nat.le_of_ble_eq_true rfl, Nat.le_of_ble_eq_true rfl⟩) ⟨En.blind, va_recv hK hP (ci := 12) (q0 := 0) rfl rfl, fun U hU hW => ⟨rfl, En.of hU hW hP hK hD hN⟩⟩ rfl rfl hl.1 rfl (lv_room (Nat.le_of_ble_eq_true rfl)) dX12_numeral_70 ⟨Nat.le_of_ble_eq_true rfl, Nat.le_of_ble_eq_true rfl⟩) hS (fun q _ h => hFc q h) hFc (fun r_u_30 u_30 t9 H locs ht9 hvm hw hB hz1 hk1 hS => ?_)
            have hP := fr_keep hP hk1
            have wu_30 := hw
            clear hFc hk1 hz1 hB hw
            have wu_30 : (r_u_30.toInt = 0 ∨ r_u_30.toInt = 1) ∧ ((r_u_30.toInt = 1 ∧ (v26 4).toInt = 0) ∨ (r_u_30.toInt = 0 ∧ (v26 4).toInt ≠ 0)) := wu_30
            refine lv_if_eq (tgt := 80) hx hb dX12_numeral_73 (by decide) (fun c_31 => ?_) (fun c_31 => ?_)
            · have q_32 : r_u_30.toInt = (0 : Int32).toInt := (ow_eq _ _).mp c_31
              refine lv_iload_n hx hb dX12_numeral_80 rfl (lv_at hl 2 rfl) ?_
              refine W.widen (k := 0) (n := 0) (Nat.le_of_ble_eq_true rfl) (Nat.le_of_ble_eq_true rfl) ?_
              exact W.iret (v := n) hx hb hr (fun t ht9 hW => ⟨⟨n, (v26, nm26), rfl, ⟨hv, hV_0, (show n.toInt ≤ n.toInt ∧ n.toInt ≤ n2.toInt ∧ (v26 7).toInt ≤ (v 3).toInt ∧ ((v26 4).toInt ≠ 0 ∨ ((v 4).toInt = 0 ∧ (v 8).toInt = 4)) from by rw [(show v26 7 = (v 7) from (xu_26V 7 (by decide)))]; first | omega | (subst_vars; first | rfl | omega)), (show 0 ≤ mz (v 3).toInt (v26 7).toInt (v26 8).toInt ∧ mz (v 3).toInt (v26 7).toInt (v26 8).toInt ≤ mz (v 3).toInt (v 7).toInt (v 8).toInt ∧ ((v26 4).toInt ≠ 0 ∨ mz (v 3).toInt (v26 7).toInt (v26 8).toInt < mz (v 3).toInt (v 7).toInt (v 8).toInt) from by rw [(show v26 7 = (v 7) from (xu_26V 7 (by decide))), (show v26 8 = (v 8) from (xu_26V 8 (by decide)))]; omega)⟩, ⟨by rw [ht9]; exact hP, hD⟩⟩, hS.F ht9⟩) hS.2.2 dX12_numeral_81
            · have q_33 : ¬ r_u_30.toInt = (0 : Int32).toInt := by have := (not_congr (ow_eq _ _)).mp c_31; omega
              refine lv_iload_n hx hb dX12_numeral_76 rfl (lv_at hl 0 rfl) ?_
              refine lv_goto (tgt := 81) hx hb dX12_numeral_77 (by decide) ?_
              refine W.widen (k := 0) (n := 0) (Nat.le_of_ble_eq_true rfl) (Nat.le_of_ble_eq_true rfl) ?_
              exact W.iret (v := (v 9)) hx hb hr (fun t ht9 hW => ⟨⟨(v 9), (v26, nm26), rfl, ⟨hv, hV_0, (show n.toInt ≤ (v 9).toInt ∧ (v 9).toInt ≤ n2.toInt ∧ (v26 7).toInt ≤ (v 3).toInt ∧ ((v26 4).toInt ≠ 0 ∨ ((v 4).toInt = 0 ∧ (v 8).toInt = 4)) from by rw [(show v26 7 = (v 7) from (xu_26V 7 (by decide)))]; first | omega | (subst_vars; first | rfl | omega)), (show 0 ≤ mz (v 3).toInt (v26 7).toInt (v26 8).toInt ∧ mz (v 3).toInt (v26 7).toInt (v26 8).toInt ≤ mz (v 3).toInt (v 7).toInt (v 8).toInt ∧ ((v26 4).toInt ≠ 0 ∨ mz (v 3).toInt (v26 7).toInt (v26 8).toInt < mz (v 3).toInt (v 7).toInt (v 8).toInt) from by rw [(show v26 7 = (v 7) from (xu_26V 7 (by decide))), (show v26 8 = (v 8) from (xu_26V 8 (by decide)))]; omega)⟩, ⟨by rw [ht9]; exact hP, hD⟩⟩, hS.F ht9⟩) hS.2.2 dX12_numeral_81
          · have q_34 : ¬ r_u_27.toInt = (0 : Int32).toInt := by have := (not_congr (ow_eq _ _)).mp c_28; omega
            refine lv_aload_n hx hb dX12_numeral_65 rfl (lv_at hl 1 rfl) ?_
            have hFc := fr_free hD hS hA
            refine va_callv (va_runV (As := []) (rest := []) ⟨hx, hb, hml, hown, ht⟩ (m_goOn l G cy _ mo h T v26 nm26 f g   hv hf hR hL (show (v26 7).toInt ≤ (v26 3).toInt from by rw [(show v26 7 = (v 7) from (xu_26V 7 (by decide))), (show v26 3 = (v 3) from (xu_26V 3 (by decide)))]; omega)) (cwV 0 ht (gv k_232 k_233 k_234 k_61 k_231) rfl rfl rfl (by decide +kernel) ⟨Nat.le_of_ble_eq_true rfl, Nat.le_of_ble_eq_true rfl⟩) ⟨En.blind, va_recv hK hP (ci := 12) (q0 := 0) rfl rfl, fun U hU hW => ⟨rfl, En.of hU hW hP hK hD hN⟩⟩ rfl rfl hl.1 rfl (lv_room (Nat.le_of_ble_eq_true rfl)) dX12_numeral_66 ⟨Nat.le_of_ble_eq_true rfl, Nat.le_of_ble_eq_true rfl⟩) hS (fun q _ h => hFc q h) hFc (fun u_35 t9 H locs ht9 hvm hw hB hz1 hk1 hS => ?_)
            obtain ⟨v35, nm35⟩ := u_35
            obtain ⟨hP1, hD1⟩ := hB
            rw [ht9] at hP1
            obtain ⟨hv, xu_35V, wu_35, xu_35_M⟩ := hw
            dsimp only at hv xu_35V wu_35 xu_35_M
            have hP : va_P G vwCl (WMs cy mo h v35 nm35 f g) H := hP1
            have hD : va_D A (WMs cy mo h v35 nm35 f g) := hD1.weaken (fun _ _ _ h => hFc _ h)
            have hR : RI v35 f := RI.fv hR xu_35V (by decide)
            have hL : WL v35 f := WL.fv hL xu_35V (by decide) (by decide)
            have hV_0 := FV.tr hV_0 xu_35V (by decide)
            clear hFc hk1 hz1 hP1 hD1
            have wu_35 : ((v35 7).toInt ≤ (v 3).toInt ∧ (((v35 8).toInt = 0 ∧ (v35 7).toInt = (v 3).toInt) ∨ ((v35 8).toInt ≠ 0 ∧ (v 7).toInt < (v35 7).toInt))) := by
              have h9 : ((v35 7).toInt ≤ (v26 3).toInt ∧ (((v35 8).toInt = 0 ∧ (v35 7).toInt = (v26 3).toInt) ∨ ((v35 8).toInt ≠ 0 ∧ (v26 7).toInt < (v35 7).toInt))) := wu_35
              rw [(show v26 3 = (v 3) from (xu_26V 3 (by decide))), (show v26 7 = (v 7) from (xu_26V 7 (by decide)))] at h9
              exact h9
            have xu_35_M : 0 ≤ mz (v 3).toInt (v35 7).toInt (v35 8).toInt ∧ mz (v 3).toInt (v35 7).toInt (v35 8).toInt ≤ mz (v 3).toInt (v 7).toInt (v 8).toInt ∧ ((v 8).toInt = 0 ∨ mz (v 3).toInt (v35 7).toInt (v35 8).toInt < mz (v 3).toInt (v 7).toInt (v 8).toInt) := by
              have h9 : 0 ≤ mz (v26 3).toInt (v35 7).toInt (v35 8).toInt ∧ mz (v26 3).toInt (v35 7).toInt (v35 8).toInt ≤ mz (v26 3).toInt (v26 7).toInt (v26 8).toInt ∧ ((v26 8).toInt = 0 ∨ mz (v26 3).toInt (v35 7).toInt (v35 8).toInt < mz (v26 3).toInt (v26 7).toInt (v26 8).toInt) := xu_35_M
              rw [(show v26 3 = (v 3) from (xu_26V 3 (by decide))), (show v26 7 = (v 7) from (xu_26V 7 (by decide))), (show v26 8 = (v 8) from (xu_26V 8 (by decide)))] at h9
              exact h9
            refine lv_aload_n hx hb dX12_numeral_69 rfl (lv_at hl 1 rfl) ?_
            have hFc := fr_new hS hA
            refine va_calli (va_runV (As := []) (rest := []) ⟨hx, hb, hml, hown, ht⟩ (m_isGood l G cy _ mo h T v35 nm35 f g   hv hf hR hL) (cwV 0 ht (gv k_224 k_225 k_226 k_61 k_223) rfl rfl rfl (by decide +kernel) ⟨Nat.le_of_ble_eq_true rfl, Nat.le_of_ble_eq_true rfl⟩) ⟨En.blind, va_recv hK hP (ci := 12) (q0 := 0) rfl rfl, fun U hU hW => ⟨rfl, En.of hU hW hP hK hD hN⟩⟩ rfl rfl hl.1 rfl (lv_room (Nat.le_of_ble_eq_true rfl)) dX12_numeral_70 ⟨Nat.le_of_ble_eq_true rfl, Nat.le_of_ble_eq_true rfl⟩) hS (fun q _ h => hFc q h) hFc (fun r_u_36 u_36 t9 H locs ht9 hvm hw hB hz1 hk1 hS => ?_)
            have hP := fr_keep hP hk1
            have wu_36 := hw
            clear hFc hk1 hz1 hB hw
            have wu_36 : (r_u_36.toInt = 0 ∨ r_u_36.toInt = 1) ∧ ((r_u_36.toInt = 1 ∧ (v26 4).toInt = 0) ∨ (r_u_36.toInt = 0 ∧ (v26 4).toInt ≠ 0)) := by
              have h9 : (r_u_36.toInt = 0 ∨ r_u_36.toInt = 1) ∧ ((r_u_36.toInt = 1 ∧ (v35 4).toInt = 0) ∨ (r_u_36.toInt = 0 ∧ (v35 4).toInt ≠ 0)) := wu_36
              rw [(show v35 4 = (v26 4) from (xu_35V 4 (by decide)))] at h9
              exact h9
            refine lv_if_eq (tgt := 80) hx hb dX12_numeral_73 (by decide) (fun c_37 => ?_) (fun c_37 => ?_)
            · have q_38 : r_u_36.toInt = (0 : Int32).toInt := (ow_eq _ _).mp c_37
              refine lv_iload_n hx hb dX12_numeral_80 rfl (lv_at hl 2 rfl) ?_
              refine W.widen (k := 0) (n := 0) (Nat.le_of_ble_eq_true rfl) (Nat.le_of_ble_eq_true rfl) ?_
              exact W.iret (v := n) hx hb hr (fun t ht9 hW => ⟨⟨n, (v35, nm35), rfl, ⟨hv, hV_0, (show n.toInt ≤ n.toInt ∧ n.toInt ≤ n2.toInt ∧ (v35 7).toInt ≤ (v 3).toInt ∧ ((v35 4).toInt ≠ 0 ∨ ((v 4).toInt = 0 ∧ (v 8).toInt = 4)) from by rw [(show v35 4 = (v26 4) from (xu_35V 4 (by decide)))]; first | omega | (subst_vars; first | rfl | omega)), (show 0 ≤ mz (v 3).toInt (v35 7).toInt (v35 8).toInt ∧ mz (v 3).toInt (v35 7).toInt (v35 8).toInt ≤ mz (v 3).toInt (v 7).toInt (v 8).toInt ∧ ((v35 4).toInt ≠ 0 ∨ mz (v 3).toInt (v35 7).toInt (v35 8).toInt < mz (v 3).toInt (v 7).toInt (v 8).toInt) from by rw [(show v35 4 = (v26 4) from (xu_35V 4 (by decide)))]; omega)⟩, ⟨by rw [ht9]; exact hP, hD⟩⟩, hS.F ht9⟩) hS.2.2 dX12_numeral_81
            · have q_39 : ¬ r_u_36.toInt = (0 : Int32).toInt := by have := (not_congr (ow_eq _ _)).mp c_37; omega
              refine lv_iload_n hx hb dX12_numeral_76 rfl (lv_at hl 0 rfl) ?_
              refine lv_goto (tgt := 81) hx hb dX12_numeral_77 (by decide) ?_
              refine W.widen (k := 0) (n := 0) (Nat.le_of_ble_eq_true rfl) (Nat.le_of_ble_eq_true rfl) ?_
              exact W.iret (v := (v 9)) hx hb hr (fun t ht9 hW => ⟨⟨(v 9), (v35, nm35), rfl, ⟨hv, hV_0, (show n.toInt ≤ (v 9).toInt ∧ (v 9).toInt ≤ n2.toInt ∧ (v35 7).toInt ≤ (v 3).toInt ∧ ((v35 4).toInt ≠ 0 ∨ ((v 4).toInt = 0 ∧ (v 8).toInt = 4)) from by rw [(show v35 4 = (v26 4) from (xu_35V 4 (by decide)))]; first | omega | (subst_vars; first | rfl | omega)), (show 0 ≤ mz (v 3).toInt (v35 7).toInt (v35 8).toInt ∧ mz (v 3).toInt (v35 7).toInt (v35 8).toInt ≤ mz (v 3).toInt (v 7).toInt (v 8).toInt ∧ ((v35 4).toInt ≠ 0 ∨ mz (v 3).toInt (v35 7).toInt (v35 8).toInt < mz (v 3).toInt (v 7).toInt (v 8).toInt) from by rw [(show v35 4 = (v26 4) from (xu_35V 4 (by decide)))]; omega)⟩, ⟨by rw [ht9]; exact hP, hD⟩⟩, hS.F ht9⟩) hS.2.2 dX12_numeral_81
        · have q_40 : n.toInt ≤ (v 9).toInt := by have := (not_congr (ow_lt _ _)).mp c_23; omega
          refine lv_aload_n hx hb dX12_numeral_36 rfl (lv_at hl 0 rfl) ?_
          refine mg_9 hx hb ht hown hK hP dX12_numeral_37 ?_
          refine lv_iload_n hx hb dX12_numeral_40 rfl (lv_at hl 2 rfl) ?_
          refine lv_icmp_le (tgt := 53) hx hb dX12_numeral_41 (by decide) (fun c_41 => ?_) (fun c_41 => ?_)
          · have q_42 : (v 9).toInt ≤ n2.toInt := (ow_le _ _).mp c_41
            refine lv_aload_n hx hb dX12_numeral_53 rfl (lv_at hl 0 rfl) ?_
            refine mg_9 hx hb ht hown hK hP dX12_numeral_54 ?_
            refine lv_istore_n (lv' := [(3, .int (v 9)), (0, .ref mo), (1, .int n), (2, .int n2)]) hx hb dX12_numeral_57 rfl hl (by decide) rfl (fun ls hl => ?_)
            refine lv_aload_n hx hb dX12_numeral_58 rfl (lv_at hl 1 rfl) ?_
            have hFc := fr_new hS hA
            refine va_calli (va_runV (As := []) (rest := []) ⟨hx, hb, hml, hown, ht⟩ (m_isGood l G cy _ mo h T v nm f g   hv hf hR hL) (cwV 0 ht (gv k_224 k_225 k_226 k_61 k_223) rfl rfl rfl (by decide +kernel) ⟨Nat.le_of_ble_eq_true rfl, Nat.le_of_ble_eq_true rfl⟩) ⟨En.blind, va_recv hK hP (ci := 12) (q0 := 0) rfl rfl, fun U hU hW => ⟨rfl, En.of hU hW hP hK hD hN⟩⟩ rfl rfl hl.1 rfl (lv_room (Nat.le_of_ble_eq_true rfl)) dX12_numeral_59 ⟨Nat.le_of_ble_eq_true rfl, Nat.le_of_ble_eq_true rfl⟩) hS (fun q _ h => hFc q h) hFc (fun r_u_43 u_43 t9 H locs ht9 hvm hw hB hz1 hk1 hS => ?_)
            have hP := fr_keep hP hk1
            have wu_43 := hw
            clear hFc hk1 hz1 hB hw
            refine lv_if_eq (tgt := 69) hx hb dX12_numeral_62 (by decide) (fun c_44 => ?_) (fun c_44 => ?_)
            · have q_45 : r_u_43.toInt = (0 : Int32).toInt := (ow_eq _ _).mp c_44
              refine lv_aload_n hx hb dX12_numeral_69 rfl (lv_at hl 1 rfl) ?_
              have hFc := fr_new hS hA
              refine va_calli (va_runV (As := []) (rest := []) ⟨hx, hb, hml, hown, ht⟩ (m_isGood l G cy _ mo h T v nm f g   hv hf hR hL) (cwV 0 ht (gv k_224 k_225 k_226 k_61 k_223) rfl rfl rfl (by decide +kernel) ⟨Nat.le_of_ble_eq_true rfl, Nat.le_of_ble_eq_true rfl⟩) ⟨En.blind, va_recv hK hP (ci := 12) (q0 := 0) rfl rfl, fun U hU hW => ⟨rfl, En.of hU hW hP hK hD hN⟩⟩ rfl rfl hl.1 rfl (lv_room (Nat.le_of_ble_eq_true rfl)) dX12_numeral_70 ⟨Nat.le_of_ble_eq_true rfl, Nat.le_of_ble_eq_true rfl⟩) hS (fun q _ h => hFc q h) hFc (fun r_u_46 u_46 t9 H locs ht9 hvm hw hB hz1 hk1 hS => ?_)
              have hP := fr_keep hP hk1
              have wu_46 := hw
              clear hFc hk1 hz1 hB hw
              refine lv_if_eq (tgt := 80) hx hb dX12_numeral_73 (by decide) (fun c_47 => ?_) (fun c_47 => ?_)
              · have q_48 : r_u_46.toInt = (0 : Int32).toInt := (ow_eq _ _).mp c_47
                refine lv_iload_n hx hb dX12_numeral_80 rfl (lv_at hl 2 rfl) ?_
                refine W.widen (k := 0) (n := 0) (Nat.le_of_ble_eq_true rfl) (Nat.le_of_ble_eq_true rfl) ?_
                exact W.iret (v := n) hx hb hr (fun t ht9 hW => ⟨⟨n, (v, nm), rfl, ⟨hv, hV_0, (show n.toInt ≤ n.toInt ∧ n.toInt ≤ n2.toInt ∧ (v 7).toInt ≤ (v 3).toInt ∧ ((v 4).toInt ≠ 0 ∨ ((v 4).toInt = 0 ∧ (v 8).toInt = 4)) from by first | omega | (subst_vars; first | rfl | omega)), (show 0 ≤ mz (v 3).toInt (v 7).toInt (v 8).toInt ∧ mz (v 3).toInt (v 7).toInt (v 8).toInt ≤ mz (v 3).toInt (v 7).toInt (v 8).toInt ∧ ((v 4).toInt ≠ 0 ∨ mz (v 3).toInt (v 7).toInt (v 8).toInt < mz (v 3).toInt (v 7).toInt (v 8).toInt) from by omega)⟩, ⟨by rw [ht9]; exact hP, hD⟩⟩, hS.F ht9⟩) hS.2.2 dX12_numeral_81
              · have q_49 : ¬ r_u_46.toInt = (0 : Int32).toInt := by have := (not_congr (ow_eq _ _)).mp c_47; omega
                refine lv_iload_n hx hb dX12_numeral_76 rfl (lv_at hl 0 rfl) ?_
                refine lv_goto (tgt := 81) hx hb dX12_numeral_77 (by decide) ?_
                refine W.widen (k := 0) (n := 0) (Nat.le_of_ble_eq_true rfl) (Nat.le_of_ble_eq_true rfl) ?_
                exact W.iret (v := (v 9)) hx hb hr (fun t ht9 hW => ⟨⟨(v 9), (v, nm), rfl, ⟨hv, hV_0, (show n.toInt ≤ (v 9).toInt ∧ (v 9).toInt ≤ n2.toInt ∧ (v 7).toInt ≤ (v 3).toInt ∧ ((v 4).toInt ≠ 0 ∨ ((v 4).toInt = 0 ∧ (v 8).toInt = 4)) from by first | omega | (subst_vars; first | rfl | omega)), (show 0 ≤ mz (v 3).toInt (v 7).toInt (v 8).toInt ∧ mz (v 3).toInt (v 7).toInt (v 8).toInt ≤ mz (v 3).toInt (v 7).toInt (v 8).toInt ∧ ((v 4).toInt ≠ 0 ∨ mz (v 3).toInt (v 7).toInt (v 8).toInt < mz (v 3).toInt (v 7).toInt (v 8).toInt) from by omega)⟩, ⟨by rw [ht9]; exact hP, hD⟩⟩, hS.F ht9⟩) hS.2.2 dX12_numeral_81
            · have q_50 : ¬ r_u_43.toInt = (0 : Int32).toInt := by have := (not_congr (ow_eq _ _)).mp c_44; omega
              refine lv_aload_n hx hb dX12_numeral_65 rfl (lv_at hl 1 rfl) ?_
              have hFc := fr_free hD hS hA
              refine va_callv (va_runV (As := []) (rest := []) ⟨hx, hb, hml, hown, ht⟩ (m_goOn l G cy _ mo h T v nm f g   hv hf hR hL (show (v 7).toInt ≤ (v 3).toInt from by omega)) (cwV 0 ht (gv k_232 k_233 k_234 k_61 k_231) rfl rfl rfl (by decide +kernel) ⟨Nat.le_of_ble_eq_true rfl, Nat.le_of_ble_eq_true rfl⟩) ⟨En.blind, va_recv hK hP (ci := 12) (q0 := 0) rfl rfl, fun U hU hW => ⟨rfl, En.of hU hW hP hK hD hN⟩⟩ rfl rfl hl.1 rfl (lv_room (Nat.le_of_ble_eq_true rfl)) dX12_numeral_66 ⟨Nat.le_of_ble_eq_true rfl, Nat.le_of_ble_eq_true rfl⟩) hS (fun q _ h => hFc q h) hFc (fun u_51 t9 H locs ht9 hvm hw hB hz1 hk1 hS => ?_)
              obtain ⟨v51, nm51⟩ := u_51
              obtain ⟨hP1, hD1⟩ := hB
              rw [ht9] at hP1
              obtain ⟨hv, xu_51V, wu_51, xu_51_M⟩ := hw
              dsimp only at hv xu_51V wu_51 xu_51_M
              have hP : va_P G vwCl (WMs cy mo h v51 nm51 f g) H := hP1
              have hD : va_D A (WMs cy mo h v51 nm51 f g) := hD1.weaken (fun _ _ _ h => hFc _ h)
              have hR : RI v51 f := RI.fv hR xu_51V (by decide)
              have hL : WL v51 f := WL.fv hL xu_51V (by decide) (by decide)
              have hV_0 := FV.tr hV_0 xu_51V (by decide)
              clear hFc hk1 hz1 hP1 hD1
              have wu_51 : ((v51 7).toInt ≤ (v 3).toInt ∧ (((v51 8).toInt = 0 ∧ (v51 7).toInt = (v 3).toInt) ∨ ((v51 8).toInt ≠ 0 ∧ (v 7).toInt < (v51 7).toInt))) := wu_51
              have xu_51_M : 0 ≤ mz (v 3).toInt (v51 7).toInt (v51 8).toInt ∧ mz (v 3).toInt (v51 7).toInt (v51 8).toInt ≤ mz (v 3).toInt (v 7).toInt (v 8).toInt ∧ ((v 8).toInt = 0 ∨ mz (v 3).toInt (v51 7).toInt (v51 8).toInt < mz (v 3).toInt (v 7).toInt (v 8).toInt) := by
                have h9 : 0 ≤ mz (v 3).toInt (v51 7).toInt (v51 8).toInt ∧ mz (v 3).toInt (v51 7).toInt (v51 8).toInt ≤ mz (v 3).toInt (v 7).toInt (v 8).toInt ∧ ((v 8).toInt = 0 ∨ mz (v 3).toInt (v51 7).toInt (v51 8).toInt < mz (v 3).toInt (v 7).toInt (v 8).toInt) := xu_51_M
                exact h9
              refine lv_aload_n hx hb dX12_numeral_69 rfl (lv_at hl 1 rfl) ?_
              have hFc := fr_new hS hA
              refine va_calli (va_runV (As := []) (rest := []) ⟨hx, hb, hml, hown, ht⟩ (m_isGood l G cy _ mo h T v51 nm51 f g   hv hf hR hL) (cwV 0 ht (gv k_224 k_225 k_226 k_61 k_223) rfl rfl rfl (by decide +kernel) ⟨Nat.le_of_ble_eq_true rfl, Nat.le_of_ble_eq_true rfl⟩) ⟨En.blind, va_recv hK hP (ci := 12) (q0 := 0) rfl rfl, fun U hU hW => ⟨rfl, En.of hU hW hP hK hD hN⟩⟩ rfl rfl hl.1 rfl (lv_room (Nat.le_of_ble_eq_true rfl)) dX12_numeral_70 ⟨Nat.le_of_ble_eq_true rfl, Nat.le_of_ble_eq_true rfl⟩) hS (fun q _ h => hFc q h) hFc (fun r_u_52 u_52 t9 H locs ht9 hvm hw hB hz1 hk1 hS => ?_)
              have hP := fr_keep hP hk1
              have wu_52 := hw
              clear hFc hk1 hz1 hB hw
              have wu_52 : (r_u_52.toInt = 0 ∨ r_u_52.toInt = 1) ∧ ((r_u_52.toInt = 1 ∧ (v 4).toInt = 0) ∨ (r_u_52.toInt = 0 ∧ (v 4).toInt ≠ 0)) := by
                have h9 : (r_u_52.toInt = 0 ∨ r_u_52.toInt = 1) ∧ ((r_u_52.toInt = 1 ∧ (v51 4).toInt = 0) ∨ (r_u_52.toInt = 0 ∧ (v51 4).toInt ≠ 0)) := wu_52
                rw [(show v51 4 = (v 4) from (xu_51V 4 (by decide)))] at h9
                exact h9
              refine lv_if_eq (tgt := 80) hx hb dX12_numeral_73 (by decide) (fun c_53 => ?_) (fun c_53 => ?_)
              · have q_54 : r_u_52.toInt = (0 : Int32).toInt := (ow_eq _ _).mp c_53
                refine lv_iload_n hx hb dX12_numeral_80 rfl (lv_at hl 2 rfl) ?_
                refine W.widen (k := 0) (n := 0) (Nat.le_of_ble_eq_true rfl) (Nat.le_of_ble_eq_true rfl) ?_
                exact W.iret (v := n) hx hb hr (fun t ht9 hW => ⟨⟨n, (v51, nm51), rfl, ⟨hv, hV_0, (show n.toInt ≤ n.toInt ∧ n.toInt ≤ n2.toInt ∧ (v51 7).toInt ≤ (v 3).toInt ∧ ((v51 4).toInt ≠ 0 ∨ ((v 4).toInt = 0 ∧ (v 8).toInt = 4)) from by rw [(show v51 4 = (v 4) from (xu_51V 4 (by decide)))]; first | omega | (subst_vars; first | rfl | omega)), (show 0 ≤ mz (v 3).toInt (v51 7).toInt (v51 8).toInt ∧ mz (v 3).toInt (v51 7).toInt (v51 8).toInt ≤ mz (v 3).toInt (v 7).toInt (v 8).toInt ∧ ((v51 4).toInt ≠ 0 ∨ mz (v 3).toInt (v51 7).toInt (v51 8).toInt < mz (v 3).toInt (v 7).toInt (v 8).toInt) from by rw [(show v51 4 = (v 4) from (xu_51V 4 (by decide)))]; omega)⟩, ⟨by rw [ht9]; exact hP, hD⟩⟩, hS.F ht9⟩) hS.2.2 dX12_numeral_81
              · have q_55 : ¬ r_u_52.toInt = (0 : Int32).toInt := by have := (not_congr (ow_eq _ _)).mp c_53; omega
                refine lv_iload_n hx hb dX12_numeral_76 rfl (lv_at hl 0 rfl) ?_
                refine lv_goto (tgt := 81) hx hb dX12_numeral_77 (by decide) ?_
                refine W.widen (k := 0) (n := 0) (Nat.le_of_ble_eq_true rfl) (Nat.le_of_ble_eq_true rfl) ?_
                exact W.iret (v := (v 9)) hx hb hr (fun t ht9 hW => ⟨⟨(v 9), (v51, nm51), rfl, ⟨hv, hV_0, (show n.toInt ≤ (v 9).toInt ∧ (v 9).toInt ≤ n2.toInt ∧ (v51 7).toInt ≤ (v 3).toInt ∧ ((v51 4).toInt ≠ 0 ∨ ((v 4).toInt = 0 ∧ (v 8).toInt = 4)) from by rw [(show v51 4 = (v 4) from (xu_51V 4 (by decide)))]; first | omega | (subst_vars; first | rfl | omega)), (show 0 ≤ mz (v 3).toInt (v51 7).toInt (v51 8).toInt ∧ mz (v 3).toInt (v51 7).toInt (v51 8).toInt ≤ mz (v 3).toInt (v 7).toInt (v 8).toInt ∧ ((v51 4).toInt ≠ 0 ∨ mz (v 3).toInt (v51 7).toInt (v51 8).toInt < mz (v 3).toInt (v 7).toInt (v 8).toInt) from by rw [(show v51 4 = (v 4) from (xu_51V 4 (by decide)))]; omega)⟩, ⟨by rw [ht9]; exact hP, hD⟩⟩, hS.F ht9⟩) hS.2.2 dX12_numeral_81
          · have q_56 : n2.toInt < (v 9).toInt := by have := (not_congr (ow_le _ _)).mp c_41; omega
            refine lv_aload_n hx hb dX12_numeral_44 rfl (lv_at hl 0 rfl) ?_
            refine lv_iconst (v := 4) hx hb dX12_numeral_45 (by decide) ?_
            refine lv_aload_n hx hb dX12_numeral_46 rfl (lv_at hl 0 rfl) ?_
            refine mg_6 hx hb ht hown hK hP dX12_numeral_47 ?_
            have q_57 : 0 ≤ (v 6).toInt ∧ (v 6).toInt ≤ 1700 := hv 6
            have hFc := fr_free hD hS hA
            refine va_callv (va_runV (As := [.int 4, .int (v 6)]) (rest := []) ⟨hx, hb, hml, hown, ht⟩ (m_fails l G cy _ mo h T v nm f g (4) (v 6)  hv hf hR hL (by omega)) (cwV 2 ht (gv k_211 k_212 k_213 k_61 k_210) rfl rfl rfl (by decide +kernel) ⟨Nat.le_of_ble_eq_true rfl, Nat.le_of_ble_eq_true rfl⟩) ⟨En.blind, va_recv hK hP (ci := 12) (q0 := 0) rfl rfl, fun U hU hW => ⟨rfl, En.of hU hW hP hK hD hN⟩⟩ rfl rfl hl.1 rfl (lv_room (Nat.le_of_ble_eq_true rfl)) dX12_numeral_50 ⟨Nat.le_of_ble_eq_true rfl, Nat.le_of_ble_eq_true rfl⟩) hS (fun q _ h => hFc q h) hFc (fun u_58 t9 H locs ht9 hvm hw hB hz1 hk1 hS => ?_)
            obtain ⟨v58, nm58⟩ := u_58
            obtain ⟨hP1, hD1⟩ := hB
            rw [ht9] at hP1
            obtain ⟨hv, xu_58V, wu_58⟩ := hw
            dsimp only at hv xu_58V wu_58
            have hP : va_P G vwCl (WMs cy mo h v58 nm58 f g) H := hP1
            have hD : va_D A (WMs cy mo h v58 nm58 f g) := hD1.weaken (fun _ _ _ h => hFc _ h)
            have hR : RI v58 f := RI.fv hR xu_58V (by decide)
            have hL : WL v58 f := WL.fv hL xu_58V (by decide) (by decide)
            have hV_0 := FV.tr hV_0 xu_58V (by decide)
            clear hFc hk1 hz1 hP1 hD1
            have wu_58 : (1 ≤ (v58 4).toInt) := wu_58
            refine lv_aload_n hx hb dX12_numeral_53 rfl (lv_at hl 0 rfl) ?_
            refine mg_9 hx hb ht hown hK hP dX12_numeral_54 ?_
            refine ow_top (v 9) (xu_58V 9 (by decide)) ?_
            refine lv_istore_n (lv' := [(3, .int (v 9)), (0, .ref mo), (1, .int n), (2, .int n2)]) hx hb dX12_numeral_57 rfl hl (by decide) rfl (fun ls hl => ?_)
            refine lv_aload_n hx hb dX12_numeral_58 rfl (lv_at hl 1 rfl) ?_
            have hFc := fr_new hS hA
            refine va_calli (va_runV (As := []) (rest := []) ⟨hx, hb, hml, hown, ht⟩ (m_isGood l G cy _ mo h T v58 nm58 f g   hv hf hR hL) (cwV 0 ht (gv k_224 k_225 k_226 k_61 k_223) rfl rfl rfl (by decide +kernel) ⟨Nat.le_of_ble_eq_true rfl, Nat.le_of_ble_eq_true rfl⟩) ⟨En.blind, va_recv hK hP (ci := 12) (q0 := 0) rfl rfl, fun U hU hW => ⟨rfl, En.of hU hW hP hK hD hN⟩⟩ rfl rfl hl.1 rfl (lv_room (Nat.le_of_ble_eq_true rfl)) dX12_numeral_59 ⟨Nat.le_of_ble_eq_true rfl, Nat.le_of_ble_eq_true rfl⟩) hS (fun q _ h => hFc q h) hFc (fun r_u_59 u_59 t9 H locs ht9 hvm hw hB hz1 hk1 hS => ?_)
            have hP := fr_keep hP hk1
            have wu_59 := hw
            clear hFc hk1 hz1 hB hw
            have wu_59 : (r_u_59.toInt = 0 ∨ r_u_59.toInt = 1) ∧ ((r_u_59.toInt = 1 ∧ (v58 4).toInt = 0) ∨ (r_u_59.toInt = 0 ∧ (v58 4).toInt ≠ 0)) := wu_59
            refine lv_if_eq (tgt := 69) hx hb dX12_numeral_62 (by decide) (fun c_60 => ?_) (fun c_60 => ?_)
            · have q_61 : r_u_59.toInt = (0 : Int32).toInt := (ow_eq _ _).mp c_60
              refine lv_aload_n hx hb dX12_numeral_69 rfl (lv_at hl 1 rfl) ?_
              have hFc := fr_new hS hA
              refine va_calli (va_runV (As := []) (rest := []) ⟨hx, hb, hml, hown, ht⟩ (m_isGood l G cy _ mo h T v58 nm58 f g   hv hf hR hL) (cwV 0 ht (gv k_224 k_225 k_226 k_61 k_223) rfl rfl rfl (by decide +kernel) ⟨Nat.le_of_ble_eq_true rfl, Nat.le_of_ble_eq_true rfl⟩) ⟨En.blind, va_recv hK hP (ci := 12) (q0 := 0) rfl rfl, fun U hU hW => ⟨rfl, En.of hU hW hP hK hD hN⟩⟩ rfl rfl hl.1 rfl (lv_room (Nat.le_of_ble_eq_true rfl)) dX12_numeral_70 ⟨Nat.le_of_ble_eq_true rfl, Nat.le_of_ble_eq_true rfl⟩) hS (fun q _ h => hFc q h) hFc (fun r_u_62 u_62 t9 H locs ht9 hvm hw hB hz1 hk1 hS => ?_)
              have hP := fr_keep hP hk1
              have wu_62 := hw
              clear hFc hk1 hz1 hB hw
              have wu_62 : (r_u_62.toInt = 0 ∨ r_u_62.toInt = 1) ∧ ((r_u_62.toInt = 1 ∧ (v58 4).toInt = 0) ∨ (r_u_62.toInt = 0 ∧ (v58 4).toInt ≠ 0)) := wu_62
              refine lv_if_eq (tgt := 80) hx hb dX12_numeral_73 (by decide) (fun c_63 => ?_) (fun c_63 => ?_)
              · have q_64 : r_u_62.toInt = (0 : Int32).toInt := (ow_eq _ _).mp c_63
                refine lv_iload_n hx hb dX12_numeral_80 rfl (lv_at hl 2 rfl) ?_
                refine W.widen (k := 0) (n := 0) (Nat.le_of_ble_eq_true rfl) (Nat.le_of_ble_eq_true rfl) ?_
                exact W.iret (v := n) hx hb hr (fun t ht9 hW => ⟨⟨n, (v58, nm58), rfl, ⟨hv, hV_0, (show n.toInt ≤ n.toInt ∧ n.toInt ≤ n2.toInt ∧ (v58 7).toInt ≤ (v 3).toInt ∧ ((v58 4).toInt ≠ 0 ∨ ((v 4).toInt = 0 ∧ (v 8).toInt = 4)) from by rw [(show v58 7 = (v 7) from (xu_58V 7 (by decide)))]; first | omega | (subst_vars; first | rfl | omega)), (show 0 ≤ mz (v 3).toInt (v58 7).toInt (v58 8).toInt ∧ mz (v 3).toInt (v58 7).toInt (v58 8).toInt ≤ mz (v 3).toInt (v 7).toInt (v 8).toInt ∧ ((v58 4).toInt ≠ 0 ∨ mz (v 3).toInt (v58 7).toInt (v58 8).toInt < mz (v 3).toInt (v 7).toInt (v 8).toInt) from by rw [(show v58 7 = (v 7) from (xu_58V 7 (by decide))), (show v58 8 = (v 8) from (xu_58V 8 (by decide)))]; omega)⟩, ⟨by rw [ht9]; exact hP, hD⟩⟩, hS.F ht9⟩) hS.2.2 dX12_numeral_81
              · have q_65 : ¬ r_u_62.toInt = (0 : Int32).toInt := by have := (not_congr (ow_eq _ _)).mp c_63; omega
                refine lv_iload_n hx hb dX12_numeral_76 rfl (lv_at hl 0 rfl) ?_
                refine lv_goto (tgt := 81) hx hb dX12_numeral_77 (by decide) ?_
                refine W.widen (k := 0) (n := 0) (Nat.le_of_ble_eq_true rfl) (Nat.le_of_ble_eq_true rfl) ?_
                exact W.iret (v := (v 9)) hx hb hr (fun t ht9 hW => ⟨⟨(v 9), (v58, nm58), rfl, ⟨hv, hV_0, (show n.toInt ≤ (v 9).toInt ∧ (v 9).toInt ≤ n2.toInt ∧ (v58 7).toInt ≤ (v 3).toInt ∧ ((v58 4).toInt ≠ 0 ∨ ((v 4).toInt = 0 ∧ (v 8).toInt = 4)) from by rw [(show v58 7 = (v 7) from (xu_58V 7 (by decide)))]; first | omega | (subst_vars; first | rfl | omega)), (show 0 ≤ mz (v 3).toInt (v58 7).toInt (v58 8).toInt ∧ mz (v 3).toInt (v58 7).toInt (v58 8).toInt ≤ mz (v 3).toInt (v 7).toInt (v 8).toInt ∧ ((v58 4).toInt ≠ 0 ∨ mz (v 3).toInt (v58 7).toInt (v58 8).toInt < mz (v 3).toInt (v 7).toInt (v 8).toInt) from by rw [(show v58 7 = (v 7) from (xu_58V 7 (by decide))), (show v58 8 = (v 8) from (xu_58V 8 (by decide)))]; omega)⟩, ⟨by rw [ht9]; exact hP, hD⟩⟩, hS.F ht9⟩) hS.2.2 dX12_numeral_81
            · have q_66 : ¬ r_u_59.toInt = (0 : Int32).toInt := by have := (not_congr (ow_eq _ _)).mp c_60; omega
              refine lv_aload_n hx hb dX12_numeral_65 rfl (lv_at hl 1 rfl) ?_
              have hFc := fr_free hD hS hA
              refine va_callv (va_runV (As := []) (rest := []) ⟨hx, hb, hml, hown, ht⟩ (m_goOn l G cy _ mo h T v58 nm58 f g   hv hf hR hL (show (v58 7).toInt ≤ (v58 3).toInt from by rw [(show v58 7 = (v 7) from (xu_58V 7 (by decide))), (show v58 3 = (v 3) from (xu_58V 3 (by decide)))]; omega)) (cwV 0 ht (gv k_232 k_233 k_234 k_61 k_231) rfl rfl rfl (by decide +kernel) ⟨Nat.le_of_ble_eq_true rfl, Nat.le_of_ble_eq_true rfl⟩) ⟨En.blind, va_recv hK hP (ci := 12) (q0 := 0) rfl rfl, fun U hU hW => ⟨rfl, En.of hU hW hP hK hD hN⟩⟩ rfl rfl hl.1 rfl (lv_room (Nat.le_of_ble_eq_true rfl)) dX12_numeral_66 ⟨Nat.le_of_ble_eq_true rfl, Nat.le_of_ble_eq_true rfl⟩) hS (fun q _ h => hFc q h) hFc (fun u_67 t9 H locs ht9 hvm hw hB hz1 hk1 hS => ?_)
              obtain ⟨v67, nm67⟩ := u_67
              obtain ⟨hP1, hD1⟩ := hB
              rw [ht9] at hP1
              obtain ⟨hv, xu_67V, wu_67, xu_67_M⟩ := hw
              dsimp only at hv xu_67V wu_67 xu_67_M
              have hP : va_P G vwCl (WMs cy mo h v67 nm67 f g) H := hP1
              have hD : va_D A (WMs cy mo h v67 nm67 f g) := hD1.weaken (fun _ _ _ h => hFc _ h)
              have hR : RI v67 f := RI.fv hR xu_67V (by decide)
              have hL : WL v67 f := WL.fv hL xu_67V (by decide) (by decide)
              have hV_0 := FV.tr hV_0 xu_67V (by decide)
              clear hFc hk1 hz1 hP1 hD1
              have wu_67 : ((v67 7).toInt ≤ (v 3).toInt ∧ (((v67 8).toInt = 0 ∧ (v67 7).toInt = (v 3).toInt) ∨ ((v67 8).toInt ≠ 0 ∧ (v 7).toInt < (v67 7).toInt))) := by
                have h9 : ((v67 7).toInt ≤ (v58 3).toInt ∧ (((v67 8).toInt = 0 ∧ (v67 7).toInt = (v58 3).toInt) ∨ ((v67 8).toInt ≠ 0 ∧ (v58 7).toInt < (v67 7).toInt))) := wu_67
                rw [(show v58 3 = (v 3) from (xu_58V 3 (by decide))), (show v58 7 = (v 7) from (xu_58V 7 (by decide)))] at h9
                exact h9
              have xu_67_M : 0 ≤ mz (v 3).toInt (v67 7).toInt (v67 8).toInt ∧ mz (v 3).toInt (v67 7).toInt (v67 8).toInt ≤ mz (v 3).toInt (v 7).toInt (v 8).toInt ∧ ((v 8).toInt = 0 ∨ mz (v 3).toInt (v67 7).toInt (v67 8).toInt < mz (v 3).toInt (v 7).toInt (v 8).toInt) := by
                have h9 : 0 ≤ mz (v58 3).toInt (v67 7).toInt (v67 8).toInt ∧ mz (v58 3).toInt (v67 7).toInt (v67 8).toInt ≤ mz (v58 3).toInt (v58 7).toInt (v58 8).toInt ∧ ((v58 8).toInt = 0 ∨ mz (v58 3).toInt (v67 7).toInt (v67 8).toInt < mz (v58 3).toInt (v58 7).toInt (v58 8).toInt) := xu_67_M
                rw [(show v58 3 = (v 3) from (xu_58V 3 (by decide))), (show v58 7 = (v 7) from (xu_58V 7 (by decide))), (show v58 8 = (v 8) from (xu_58V 8 (by decide)))] at h9
                exact h9
              refine lv_aload_n hx hb dX12_numeral_69 rfl (lv_at hl 1 rfl) ?_
              have hFc := fr_new hS hA
              refine va_calli (va_runV (As := []) (rest := []) ⟨hx, hb, hml, hown, ht⟩ (m_isGood l G cy _ mo h T v67 nm67 f g   hv hf hR hL) (cwV 0 ht (gv k_224 k_225 k_226 k_61 k_223) rfl rfl rfl (by decide +kernel) ⟨Nat.le_of_ble_eq_true rfl, Nat.le_of_ble_eq_true rfl⟩) ⟨En.blind, va_recv hK hP (ci := 12) (q0 := 0) rfl rfl, fun U hU hW => ⟨rfl, En.of hU hW hP hK hD hN⟩⟩ rfl rfl hl.1 rfl (lv_room (Nat.le_of_ble_eq_true rfl)) dX12_numeral_70 ⟨Nat.le_of_ble_eq_true rfl, Nat.le_of_ble_eq_true rfl⟩) hS (fun q _ h => hFc q h) hFc (fun r_u_68 u_68 t9 H locs ht9 hvm hw hB hz1 hk1 hS => ?_)
              have hP := fr_keep hP hk1
              have wu_68 := hw
              clear hFc hk1 hz1 hB hw
              have wu_68 : (r_u_68.toInt = 0 ∨ r_u_68.toInt = 1) ∧ ((r_u_68.toInt = 1 ∧ (v58 4).toInt = 0) ∨ (r_u_68.toInt = 0 ∧ (v58 4).toInt ≠ 0)) := by
                have h9 : (r_u_68.toInt = 0 ∨ r_u_68.toInt = 1) ∧ ((r_u_68.toInt = 1 ∧ (v67 4).toInt = 0) ∨ (r_u_68.toInt = 0 ∧ (v67 4).toInt ≠ 0)) := wu_68
                rw [(show v67 4 = (v58 4) from (xu_67V 4 (by decide)))] at h9
                exact h9
              refine lv_if_eq (tgt := 80) hx hb dX12_numeral_73 (by decide) (fun c_69 => ?_) (fun c_69 => ?_)
              · have q_70 : r_u_68.toInt = (0 : Int32).toInt := (ow_eq _ _).mp c_69
                refine lv_iload_n hx hb dX12_numeral_80 rfl (lv_at hl 2 rfl) ?_
                refine W.widen (k := 0) (n := 0) (Nat.le_of_ble_eq_true rfl) (Nat.le_of_ble_eq_true rfl) ?_
                exact W.iret (v := n) hx hb hr (fun t ht9 hW => ⟨⟨n, (v67, nm67), rfl, ⟨hv, hV_0, (show n.toInt ≤ n.toInt ∧ n.toInt ≤ n2.toInt ∧ (v67 7).toInt ≤ (v 3).toInt ∧ ((v67 4).toInt ≠ 0 ∨ ((v 4).toInt = 0 ∧ (v 8).toInt = 4)) from by rw [(show v67 4 = (v58 4) from (xu_67V 4 (by decide)))]; first | omega | (subst_vars; first | rfl | omega)), (show 0 ≤ mz (v 3).toInt (v67 7).toInt (v67 8).toInt ∧ mz (v 3).toInt (v67 7).toInt (v67 8).toInt ≤ mz (v 3).toInt (v 7).toInt (v 8).toInt ∧ ((v67 4).toInt ≠ 0 ∨ mz (v 3).toInt (v67 7).toInt (v67 8).toInt < mz (v 3).toInt (v 7).toInt (v 8).toInt) from by rw [(show v67 4 = (v58 4) from (xu_67V 4 (by decide)))]; omega)⟩, ⟨by rw [ht9]; exact hP, hD⟩⟩, hS.F ht9⟩) hS.2.2 dX12_numeral_81
              · have q_71 : ¬ r_u_68.toInt = (0 : Int32).toInt := by have := (not_congr (ow_eq _ _)).mp c_69; omega
                refine lv_iload_n hx hb dX12_numeral_76 rfl (lv_at hl 0 rfl) ?_
                refine lv_goto (tgt := 81) hx hb dX12_numeral_77 (by decide) ?_
                refine W.widen (k := 0) (n := 0) (Nat.le_of_ble_eq_true rfl) (Nat.le_of_ble_eq_true rfl) ?_
                exact W.iret (v := (v 9)) hx hb hr (fun t ht9 hW => ⟨⟨(v 9), (v67, nm67), rfl, ⟨hv, hV_0, (show n.toInt ≤ (v 9).toInt ∧ (v 9).toInt ≤ n2.toInt ∧ (v67 7).toInt ≤ (v 3).toInt ∧ ((v67 4).toInt ≠ 0 ∨ ((v 4).toInt = 0 ∧ (v 8).toInt = 4)) from by rw [(show v67 4 = (v58 4) from (xu_67V 4 (by decide)))]; first | omega | (subst_vars; first | rfl | omega)), (show 0 ≤ mz (v 3).toInt (v67 7).toInt (v67 8).toInt ∧ mz (v 3).toInt (v67 7).toInt (v67 8).toInt ≤ mz (v 3).toInt (v 7).toInt (v 8).toInt ∧ ((v67 4).toInt ≠ 0 ∨ mz (v 3).toInt (v67 7).toInt (v67 8).toInt < mz (v 3).toInt (v 7).toInt (v 8).toInt) from by rw [(show v67 4 = (v58 4) from (xu_67V 4 (by decide)))]; omega)⟩, ⟨by rw [ht9]; exact hP, hD⟩⟩, hS.F ht9⟩) hS.2.2 dX12_numeral_81
    · have q_72 : ¬ (v 8).toInt = (4 : Int32).toInt := by have := (not_congr (ow_eq _ _)).mp c_4; omega
      refine lv_aload_n hx hb dX12_numeral_17 rfl (lv_at hl 0 rfl) ?_
      have hFc := fr_free hD hS hA
      refine va_callv (va_runV (As := []) (rest := []) ⟨hx, hb, hml, hown, ht⟩ (m_misplaced l G cy _ mo h T v nm f g   hv hf hR hL) (cwV 0 ht (gv k_228 k_229 k_230 k_61 k_227) rfl rfl rfl (by decide +kernel) ⟨Nat.le_of_ble_eq_true rfl, Nat.le_of_ble_eq_true rfl⟩) ⟨En.blind, va_recv hK hP (ci := 12) (q0 := 0) rfl rfl, fun U hU hW => ⟨rfl, En.of hU hW hP hK hD hN⟩⟩ rfl rfl hl.1 rfl (lv_room (Nat.le_of_ble_eq_true rfl)) dX12_numeral_18 ⟨Nat.le_of_ble_eq_true rfl, Nat.le_of_ble_eq_true rfl⟩) hS (fun q _ h => hFc q h) hFc (fun u_73 t9 H locs ht9 hvm hw hB hz1 hk1 hS => ?_)
      obtain ⟨v73, nm73⟩ := u_73
      obtain ⟨hP1, hD1⟩ := hB
      rw [ht9] at hP1
      obtain ⟨hv, xu_73V, wu_73⟩ := hw
      dsimp only at hv xu_73V wu_73
      have hP : va_P G vwCl (WMs cy mo h v73 nm73 f g) H := hP1
      have hD : va_D A (WMs cy mo h v73 nm73 f g) := hD1.weaken (fun _ _ _ h => hFc _ h)
      have hR : RI v73 f := RI.fv hR xu_73V (by decide)
      have hL : WL v73 f := WL.fv hL xu_73V (by decide) (by decide)
      have hV_0 := FV.tr hV_0 xu_73V (by decide)
      clear hFc hk1 hz1 hP1 hD1
      have wu_73 : (1 ≤ (v73 4).toInt) := wu_73
      refine lv_aload_n hx hb dX12_numeral_21 rfl (lv_at hl 0 rfl) ?_
      have hFc := fr_new hS hA
      refine va_calli (va_runV (As := []) (rest := []) ⟨hx, hb, hml, hown, ht⟩ (m_isGood l G cy _ mo h T v73 nm73 f g   hv hf hR hL) (cwV 0 ht (gv k_224 k_225 k_226 k_61 k_223) rfl rfl rfl (by decide +kernel) ⟨Nat.le_of_ble_eq_true rfl, Nat.le_of_ble_eq_true rfl⟩) ⟨En.blind, va_recv hK hP (ci := 12) (q0 := 0) rfl rfl, fun U hU hW => ⟨rfl, En.of hU hW hP hK hD hN⟩⟩ rfl rfl hl.1 rfl (lv_room (Nat.le_of_ble_eq_true rfl)) dX12_numeral_22 ⟨Nat.le_of_ble_eq_true rfl, Nat.le_of_ble_eq_true rfl⟩) hS (fun q _ h => hFc q h) hFc (fun r_u_74 u_74 t9 H locs ht9 hvm hw hB hz1 hk1 hS => ?_)
      have hP := fr_keep hP hk1
      have wu_74 := hw
      clear hFc hk1 hz1 hB hw
      have wu_74 : (r_u_74.toInt = 0 ∨ r_u_74.toInt = 1) ∧ ((r_u_74.toInt = 1 ∧ (v73 4).toInt = 0) ∨ (r_u_74.toInt = 0 ∧ (v73 4).toInt ≠ 0)) := wu_74
      refine lv_if_eq (tgt := 53) hx hb dX12_numeral_25 (by decide) (fun c_75 => ?_) (fun c_75 => ?_)
      · have q_76 : r_u_74.toInt = (0 : Int32).toInt := (ow_eq _ _).mp c_75
        refine lv_aload_n hx hb dX12_numeral_53 rfl (lv_at hl 0 rfl) ?_
        refine mg_9 hx hb ht hown hK hP dX12_numeral_54 ?_
        refine ow_top (v 9) (xu_73V 9 (by decide)) ?_
        refine lv_istore_n (lv' := [(3, .int (v 9)), (0, .ref mo), (1, .int n), (2, .int n2)]) hx hb dX12_numeral_57 rfl hl (by decide) rfl (fun ls hl => ?_)
        refine lv_aload_n hx hb dX12_numeral_58 rfl (lv_at hl 1 rfl) ?_
        have hFc := fr_new hS hA
        refine va_calli (va_runV (As := []) (rest := []) ⟨hx, hb, hml, hown, ht⟩ (m_isGood l G cy _ mo h T v73 nm73 f g   hv hf hR hL) (cwV 0 ht (gv k_224 k_225 k_226 k_61 k_223) rfl rfl rfl (by decide +kernel) ⟨Nat.le_of_ble_eq_true rfl, Nat.le_of_ble_eq_true rfl⟩) ⟨En.blind, va_recv hK hP (ci := 12) (q0 := 0) rfl rfl, fun U hU hW => ⟨rfl, En.of hU hW hP hK hD hN⟩⟩ rfl rfl hl.1 rfl (lv_room (Nat.le_of_ble_eq_true rfl)) dX12_numeral_59 ⟨Nat.le_of_ble_eq_true rfl, Nat.le_of_ble_eq_true rfl⟩) hS (fun q _ h => hFc q h) hFc (fun r_u_77 u_77 t9 H locs ht9 hvm hw hB hz1 hk1 hS => ?_)
        have hP := fr_keep hP hk1
        have wu_77 := hw
        clear hFc hk1 hz1 hB hw
        have wu_77 : (r_u_77.toInt = 0 ∨ r_u_77.toInt = 1) ∧ ((r_u_77.toInt = 1 ∧ (v73 4).toInt = 0) ∨ (r_u_77.toInt = 0 ∧ (v73 4).toInt ≠ 0)) := wu_77
        refine lv_if_eq (tgt := 69) hx hb dX12_numeral_62 (by decide) (fun c_78 => ?_) (fun c_78 => ?_)
        · have q_79 : r_u_77.toInt = (0 : Int32).toInt := (ow_eq _ _).mp c_78
          refine lv_aload_n hx hb dX12_numeral_69 rfl (lv_at hl 1 rfl) ?_
          have hFc := fr_new hS hA
          refine va_calli (va_runV (As := []) (rest := []) ⟨hx, hb, hml, hown, ht⟩ (m_isGood l G cy _ mo h T v73 nm73 f g   hv hf hR hL) (cwV 0 ht (gv k_224 k_225 k_226 k_61 k_223) rfl rfl rfl (by decide +kernel) ⟨Nat.le_of_ble_eq_true rfl, Nat.le_of_ble_eq_true rfl⟩) ⟨En.blind, va_recv hK hP (ci := 12) (q0 := 0) rfl rfl, fun U hU hW => ⟨rfl, En.of hU hW hP hK hD hN⟩⟩ rfl rfl hl.1 rfl (lv_room (Nat.le_of_ble_eq_true rfl)) dX12_numeral_70 ⟨Nat.le_of_ble_eq_true rfl, Nat.le_of_ble_eq_true rfl⟩) hS (fun q _ h => hFc q h) hFc (fun r_u_80 u_80 t9 H locs ht9 hvm hw hB hz1 hk1 hS => ?_)
          have hP := fr_keep hP hk1
          have wu_80 := hw
          clear hFc hk1 hz1 hB hw
          have wu_80 : (r_u_80.toInt = 0 ∨ r_u_80.toInt = 1) ∧ ((r_u_80.toInt = 1 ∧ (v73 4).toInt = 0) ∨ (r_u_80.toInt = 0 ∧ (v73 4).toInt ≠ 0)) := wu_80
          refine lv_if_eq (tgt := 80) hx hb dX12_numeral_73 (by decide) (fun c_81 => ?_) (fun c_81 => ?_)
          · have q_82 : r_u_80.toInt = (0 : Int32).toInt := (ow_eq _ _).mp c_81
            refine lv_iload_n hx hb dX12_numeral_80 rfl (lv_at hl 2 rfl) ?_
            refine W.widen (k := 0) (n := 0) (Nat.le_of_ble_eq_true rfl) (Nat.le_of_ble_eq_true rfl) ?_
            exact W.iret (v := n) hx hb hr (fun t ht9 hW => ⟨⟨n, (v73, nm73), rfl, ⟨hv, hV_0, (show n.toInt ≤ n.toInt ∧ n.toInt ≤ n2.toInt ∧ (v73 7).toInt ≤ (v 3).toInt ∧ ((v73 4).toInt ≠ 0 ∨ ((v 4).toInt = 0 ∧ (v 8).toInt = 4)) from by rw [(show v73 7 = (v 7) from (xu_73V 7 (by decide)))]; first | omega | (subst_vars; first | rfl | omega)), (show 0 ≤ mz (v 3).toInt (v73 7).toInt (v73 8).toInt ∧ mz (v 3).toInt (v73 7).toInt (v73 8).toInt ≤ mz (v 3).toInt (v 7).toInt (v 8).toInt ∧ ((v73 4).toInt ≠ 0 ∨ mz (v 3).toInt (v73 7).toInt (v73 8).toInt < mz (v 3).toInt (v 7).toInt (v 8).toInt) from by rw [(show v73 7 = (v 7) from (xu_73V 7 (by decide))), (show v73 8 = (v 8) from (xu_73V 8 (by decide)))]; omega)⟩, ⟨by rw [ht9]; exact hP, hD⟩⟩, hS.F ht9⟩) hS.2.2 dX12_numeral_81
          · have q_83 : ¬ r_u_80.toInt = (0 : Int32).toInt := by have := (not_congr (ow_eq _ _)).mp c_81; omega
            refine lv_iload_n hx hb dX12_numeral_76 rfl (lv_at hl 0 rfl) ?_
            refine lv_goto (tgt := 81) hx hb dX12_numeral_77 (by decide) ?_
            refine W.widen (k := 0) (n := 0) (Nat.le_of_ble_eq_true rfl) (Nat.le_of_ble_eq_true rfl) ?_
            exact W.iret (v := (v 9)) hx hb hr (fun t ht9 hW => ⟨⟨(v 9), (v73, nm73), rfl, ⟨hv, hV_0, (show n.toInt ≤ (v 9).toInt ∧ (v 9).toInt ≤ n2.toInt ∧ (v73 7).toInt ≤ (v 3).toInt ∧ ((v73 4).toInt ≠ 0 ∨ ((v 4).toInt = 0 ∧ (v 8).toInt = 4)) from by rw [(show v73 7 = (v 7) from (xu_73V 7 (by decide)))]; first | omega | (subst_vars; first | rfl | omega)), (show 0 ≤ mz (v 3).toInt (v73 7).toInt (v73 8).toInt ∧ mz (v 3).toInt (v73 7).toInt (v73 8).toInt ≤ mz (v 3).toInt (v 7).toInt (v 8).toInt ∧ ((v73 4).toInt ≠ 0 ∨ mz (v 3).toInt (v73 7).toInt (v73 8).toInt < mz (v 3).toInt (v 7).toInt (v 8).toInt) from by rw [(show v73 7 = (v 7) from (xu_73V 7 (by decide))), (show v73 8 = (v 8) from (xu_73V 8 (by decide)))]; omega)⟩, ⟨by rw [ht9]; exact hP, hD⟩⟩, hS.F ht9⟩) hS.2.2 dX12_numeral_81
        · have q_84 : ¬ r_u_77.toInt = (0 : Int32).toInt := by have := (not_congr (ow_eq _ _)).mp c_78; omega
          refine lv_aload_n hx hb dX12_numeral_65 rfl (lv_at hl 1 rfl) ?_
          have hFc := fr_free hD hS hA
          refine va_callv (va_runV (As := []) (rest := []) ⟨hx, hb, hml, hown, ht⟩ (m_goOn l G cy _ mo h T v73 nm73 f g   hv hf hR hL (show (v73 7).toInt ≤ (v73 3).toInt from by rw [(show v73 7 = (v 7) from (xu_73V 7 (by decide))), (show v73 3 = (v 3) from (xu_73V 3 (by decide)))]; omega)) (cwV 0 ht (gv k_232 k_233 k_234 k_61 k_231) rfl rfl rfl (by decide +kernel) ⟨Nat.le_of_ble_eq_true rfl, Nat.le_of_ble_eq_true rfl⟩) ⟨En.blind, va_recv hK hP (ci := 12) (q0 := 0) rfl rfl, fun U hU hW => ⟨rfl, En.of hU hW hP hK hD hN⟩⟩ rfl rfl hl.1 rfl (lv_room (Nat.le_of_ble_eq_true rfl)) dX12_numeral_66 ⟨Nat.le_of_ble_eq_true rfl, Nat.le_of_ble_eq_true rfl⟩) hS (fun q _ h => hFc q h) hFc (fun u_85 t9 H locs ht9 hvm hw hB hz1 hk1 hS => ?_)
          obtain ⟨v85, nm85⟩ := u_85
          obtain ⟨hP1, hD1⟩ := hB
          rw [ht9] at hP1
          obtain ⟨hv, xu_85V, wu_85, xu_85_M⟩ := hw
          dsimp only at hv xu_85V wu_85 xu_85_M
          have hP : va_P G vwCl (WMs cy mo h v85 nm85 f g) H := hP1
          have hD : va_D A (WMs cy mo h v85 nm85 f g) := hD1.weaken (fun _ _ _ h => hFc _ h)
          have hR : RI v85 f := RI.fv hR xu_85V (by decide)
          have hL : WL v85 f := WL.fv hL xu_85V (by decide) (by decide)
          have hV_0 := FV.tr hV_0 xu_85V (by decide)
          clear hFc hk1 hz1 hP1 hD1
          have wu_85 : ((v85 7).toInt ≤ (v 3).toInt ∧ (((v85 8).toInt = 0 ∧ (v85 7).toInt = (v 3).toInt) ∨ ((v85 8).toInt ≠ 0 ∧ (v 7).toInt < (v85 7).toInt))) := by
            have h9 : ((v85 7).toInt ≤ (v73 3).toInt ∧ (((v85 8).toInt = 0 ∧ (v85 7).toInt = (v73 3).toInt) ∨ ((v85 8).toInt ≠ 0 ∧ (v73 7).toInt < (v85 7).toInt))) := wu_85
            rw [(show v73 3 = (v 3) from (xu_73V 3 (by decide))), (show v73 7 = (v 7) from (xu_73V 7 (by decide)))] at h9
            exact h9
          have xu_85_M : 0 ≤ mz (v 3).toInt (v85 7).toInt (v85 8).toInt ∧ mz (v 3).toInt (v85 7).toInt (v85 8).toInt ≤ mz (v 3).toInt (v 7).toInt (v 8).toInt ∧ ((v 8).toInt = 0 ∨ mz (v 3).toInt (v85 7).toInt (v85 8).toInt < mz (v 3).toInt (v 7).toInt (v 8).toInt) := by
            have h9 : 0 ≤ mz (v73 3).toInt (v85 7).toInt (v85 8).toInt ∧ mz (v73 3).toInt (v85 7).toInt (v85 8).toInt ≤ mz (v73 3).toInt (v73 7).toInt (v73 8).toInt ∧ ((v73 8).toInt = 0 ∨ mz (v73 3).toInt (v85 7).toInt (v85 8).toInt < mz (v73 3).toInt (v73 7).toInt (v73 8).toInt) := xu_85_M
            rw [(show v73 3 = (v 3) from (xu_73V 3 (by decide))), (show v73 7 = (v 7) from (xu_73V 7 (by decide))), (show v73 8 = (v 8) from (xu_73V 8 (by decide)))] at h9
            exact h9
          refine lv_aload_n hx hb dX12_numeral_69 rfl (lv_at hl 1 rfl) ?_
          have hFc := fr_new hS hA
          refine va_calli (va_runV (As := []) (rest := []) ⟨hx, hb, hml, hown, ht⟩ (m_isGood l G cy _ mo h T v85 nm85 f g   hv hf hR hL) (cwV 0 ht (gv k_224 k_225 k_226 k_61 k_223) rfl rfl rfl (by decide +kernel) ⟨Nat.le_of_ble_eq_true rfl, Nat.le_of_ble_eq_true rfl⟩) ⟨En.blind, va_recv hK hP (ci := 12) (q0 := 0) rfl rfl, fun U hU hW => ⟨rfl, En.of hU hW hP hK hD hN⟩⟩ rfl rfl hl.1 rfl (lv_room (Nat.le_of_ble_eq_true rfl)) dX12_numeral_70 ⟨Nat.le_of_ble_eq_true rfl, Nat.le_of_ble_eq_true rfl⟩) hS (fun q _ h => hFc q h) hFc (fun r_u_86 u_86 t9 H locs ht9 hvm hw hB hz1 hk1 hS => ?_)
          have hP := fr_keep hP hk1
          have wu_86 := hw
          clear hFc hk1 hz1 hB hw
          have wu_86 : (r_u_86.toInt = 0 ∨ r_u_86.toInt = 1) ∧ ((r_u_86.toInt = 1 ∧ (v73 4).toInt = 0) ∨ (r_u_86.toInt = 0 ∧ (v73 4).toInt ≠ 0)) := by
            have h9 : (r_u_86.toInt = 0 ∨ r_u_86.toInt = 1) ∧ ((r_u_86.toInt = 1 ∧ (v85 4).toInt = 0) ∨ (r_u_86.toInt = 0 ∧ (v85 4).toInt ≠ 0)) := wu_86
            rw [(show v85 4 = (v73 4) from (xu_85V 4 (by decide)))] at h9
            exact h9
          refine lv_if_eq (tgt := 80) hx hb dX12_numeral_73 (by decide) (fun c_87 => ?_) (fun c_87 => ?_)
          · have q_88 : r_u_86.toInt = (0 : Int32).toInt := (ow_eq _ _).mp c_87
            refine lv_iload_n hx hb dX12_numeral_80 rfl (lv_at hl 2 rfl) ?_
            refine W.widen (k := 0) (n := 0) (Nat.le_of_ble_eq_true rfl) (Nat.le_of_ble_eq_true rfl) ?_
            exact W.iret (v := n) hx hb hr (fun t ht9 hW => ⟨⟨n, (v85, nm85), rfl, ⟨hv, hV_0, (show n.toInt ≤ n.toInt ∧ n.toInt ≤ n2.toInt ∧ (v85 7).toInt ≤ (v 3).toInt ∧ ((v85 4).toInt ≠ 0 ∨ ((v 4).toInt = 0 ∧ (v 8).toInt = 4)) from by rw [(show v85 4 = (v73 4) from (xu_85V 4 (by decide)))]; first | omega | (subst_vars; first | rfl | omega)), (show 0 ≤ mz (v 3).toInt (v85 7).toInt (v85 8).toInt ∧ mz (v 3).toInt (v85 7).toInt (v85 8).toInt ≤ mz (v 3).toInt (v 7).toInt (v 8).toInt ∧ ((v85 4).toInt ≠ 0 ∨ mz (v 3).toInt (v85 7).toInt (v85 8).toInt < mz (v 3).toInt (v 7).toInt (v 8).toInt) from by rw [(show v85 4 = (v73 4) from (xu_85V 4 (by decide)))]; omega)⟩, ⟨by rw [ht9]; exact hP, hD⟩⟩, hS.F ht9⟩) hS.2.2 dX12_numeral_81
          · have q_89 : ¬ r_u_86.toInt = (0 : Int32).toInt := by have := (not_congr (ow_eq _ _)).mp c_87; omega
            refine lv_iload_n hx hb dX12_numeral_76 rfl (lv_at hl 0 rfl) ?_
            refine lv_goto (tgt := 81) hx hb dX12_numeral_77 (by decide) ?_
            refine W.widen (k := 0) (n := 0) (Nat.le_of_ble_eq_true rfl) (Nat.le_of_ble_eq_true rfl) ?_
            exact W.iret (v := (v 9)) hx hb hr (fun t ht9 hW => ⟨⟨(v 9), (v85, nm85), rfl, ⟨hv, hV_0, (show n.toInt ≤ (v 9).toInt ∧ (v 9).toInt ≤ n2.toInt ∧ (v85 7).toInt ≤ (v 3).toInt ∧ ((v85 4).toInt ≠ 0 ∨ ((v 4).toInt = 0 ∧ (v 8).toInt = 4)) from by rw [(show v85 4 = (v73 4) from (xu_85V 4 (by decide)))]; first | omega | (subst_vars; first | rfl | omega)), (show 0 ≤ mz (v 3).toInt (v85 7).toInt (v85 8).toInt ∧ mz (v 3).toInt (v85 7).toInt (v85 8).toInt ≤ mz (v 3).toInt (v 7).toInt (v 8).toInt ∧ ((v85 4).toInt ≠ 0 ∨ mz (v 3).toInt (v85 7).toInt (v85 8).toInt < mz (v 3).toInt (v 7).toInt (v 8).toInt) from by rw [(show v85 4 = (v73 4) from (xu_85V 4 (by decide)))]; omega)⟩, ⟨by rw [ht9]; exact hP, hD⟩⟩, hS.F ht9⟩) hS.2.2 dX12_numeral_81
      · have q_90 : ¬ r_u_74.toInt = (0 : Int32).toInt := by have := (not_congr (ow_eq _ _)).mp c_75; omega
        refine lv_aload_n hx hb dX12_numeral_28 rfl (lv_at hl 0 rfl) ?_
        refine mg_9 hx hb ht hown hK hP dX12_numeral_29 ?_
        refine ow_top (v 9) (xu_73V 9 (by decide)) ?_
        refine lv_iload_n hx hb dX12_numeral_32 rfl (lv_at hl 1 rfl) ?_
        refine lv_icmp_lt (tgt := 44) hx hb dX12_numeral_33 (by decide) (fun c_91 => ?_) (fun c_91 => ?_)
        · have q_92 : (v 9).toInt < n.toInt := (ow_lt _ _).mp c_91
          refine lv_aload_n hx hb dX12_numeral_44 rfl (lv_at hl 0 rfl) ?_
          refine lv_iconst (v := 4) hx hb dX12_numeral_45 (by decide) ?_
          refine lv_aload_n hx hb dX12_numeral_46 rfl (lv_at hl 0 rfl) ?_
          refine mg_6 hx hb ht hown hK hP dX12_numeral_47 ?_
          refine ow_top (v 6) (xu_73V 6 (by decide)) ?_
          have q_93 : 0 ≤ (v 6).toInt ∧ (v 6).toInt ≤ 1700 := by have h9 : v73 6 = (v 6) := (xu_73V 6 (by decide)); rw [← h9]; exact hv 6
          have hFc := fr_free hD hS hA
          refine va_callv (va_runV (As := [.int 4, .int (v 6)]) (rest := []) ⟨hx, hb, hml, hown, ht⟩ (m_fails l G cy _ mo h T v73 nm73 f g (4) (v 6)  hv hf hR hL (by omega)) (cwV 2 ht (gv k_211 k_212 k_213 k_61 k_210) rfl rfl rfl (by decide +kernel) ⟨Nat.le_of_ble_eq_true rfl, Nat.le_of_ble_eq_true rfl⟩) ⟨En.blind, va_recv hK hP (ci := 12) (q0 := 0) rfl rfl, fun U hU hW => ⟨rfl, En.of hU hW hP hK hD hN⟩⟩ rfl rfl hl.1 rfl (lv_room (Nat.le_of_ble_eq_true rfl)) dX12_numeral_50 ⟨Nat.le_of_ble_eq_true rfl, Nat.le_of_ble_eq_true rfl⟩) hS (fun q _ h => hFc q h) hFc (fun u_94 t9 H locs ht9 hvm hw hB hz1 hk1 hS => ?_)
          obtain ⟨v94, nm94⟩ := u_94
          obtain ⟨hP1, hD1⟩ := hB
          rw [ht9] at hP1
          obtain ⟨hv, xu_94V, wu_94⟩ := hw
          dsimp only at hv xu_94V wu_94
          have hP : va_P G vwCl (WMs cy mo h v94 nm94 f g) H := hP1
          have hD : va_D A (WMs cy mo h v94 nm94 f g) := hD1.weaken (fun _ _ _ h => hFc _ h)
          have hR : RI v94 f := RI.fv hR xu_94V (by decide)
          have hL : WL v94 f := WL.fv hL xu_94V (by decide) (by decide)
          have hV_0 := FV.tr hV_0 xu_94V (by decide)
          clear hFc hk1 hz1 hP1 hD1
          have wu_94 : (1 ≤ (v94 4).toInt) := wu_94
          refine lv_aload_n hx hb dX12_numeral_53 rfl (lv_at hl 0 rfl) ?_
          refine mg_9 hx hb ht hown hK hP dX12_numeral_54 ?_
          refine ow_top (v 9) ((xu_94V 9 (by decide)).trans (xu_73V 9 (by decide))) ?_
          refine lv_istore_n (lv' := [(3, .int (v 9)), (0, .ref mo), (1, .int n), (2, .int n2)]) hx hb dX12_numeral_57 rfl hl (by decide) rfl (fun ls hl => ?_)
          refine lv_aload_n hx hb dX12_numeral_58 rfl (lv_at hl 1 rfl) ?_
          have hFc := fr_new hS hA
          refine va_calli (va_runV (As := []) (rest := []) ⟨hx, hb, hml, hown, ht⟩ (m_isGood l G cy _ mo h T v94 nm94 f g   hv hf hR hL) (cwV 0 ht (gv k_224 k_225 k_226 k_61 k_223) rfl rfl rfl (by decide +kernel) ⟨Nat.le_of_ble_eq_true rfl, Nat.le_of_ble_eq_true rfl⟩) ⟨En.blind, va_recv hK hP (ci := 12) (q0 := 0) rfl rfl, fun U hU hW => ⟨rfl, En.of hU hW hP hK hD hN⟩⟩ rfl rfl hl.1 rfl (lv_room (Nat.le_of_ble_eq_true rfl)) dX12_numeral_59 ⟨Nat.le_of_ble_eq_true rfl, Nat.le_of_ble_eq_true rfl⟩) hS (fun q _ h => hFc q h) hFc (fun r_u_95 u_95 t9 H locs ht9 hvm hw hB hz1 hk1 hS => ?_)
          have hP := fr_keep hP hk1
          have wu_95 := hw
          clear hFc hk1 hz1 hB hw
          have wu_95 : (r_u_95.toInt = 0 ∨ r_u_95.toInt = 1) ∧ ((r_u_95.toInt = 1 ∧ (v94 4).toInt = 0) ∨ (r_u_95.toInt = 0 ∧ (v94 4).toInt ≠ 0)) := wu_95
          refine lv_if_eq (tgt := 69) hx hb dX12_numeral_62 (by decide) (fun c_96 => ?_) (fun c_96 => ?_)
          · have q_97 : r_u_95.toInt = (0 : Int32).toInt := (ow_eq _ _).mp c_96
            refine lv_aload_n hx hb dX12_numeral_69 rfl (lv_at hl 1 rfl) ?_
            have hFc := fr_new hS hA
            refine va_calli (va_runV (As := []) (rest := []) ⟨hx, hb, hml, hown, ht⟩ (m_isGood l G cy _ mo h T v94 nm94 f g   hv hf hR hL) (cwV 0 ht (gv k_224 k_225 k_226 k_61 k_223) rfl rfl rfl (by decide +kernel) ⟨Nat.le_of_ble_eq_true rfl, Nat.le_of_ble_eq_true rfl⟩) ⟨En.blind, va_recv hK hP (ci := 12) (q0 := 0) rfl rfl, fun U hU hW => ⟨rfl, En.of hU hW hP hK hD hN⟩⟩ rfl rfl hl.1 rfl (lv_room (Nat.le_of_ble_eq_true rfl)) dX12_numeral_70 ⟨Nat.le_of_ble_eq_true rfl, Nat.le_of_ble_eq_true rfl⟩) hS (fun q _ h => hFc q h) hFc (fun r_u_98 u_98 t9 H locs ht9 hvm hw hB hz1 hk1 hS => ?_)
            have hP := fr_keep hP hk1
            have wu_98 := hw
            clear hFc hk1 hz1 hB hw
            have wu_98 : (r_u_98.toInt = 0 ∨ r_u_98.toInt = 1) ∧ ((r_u_98.toInt = 1 ∧ (v94 4).toInt = 0) ∨ (r_u_98.toInt = 0 ∧ (v94 4).toInt ≠ 0)) := wu_98
            refine lv_if_eq (tgt := 80) hx hb dX12_numeral_73 (by decide) (fun c_99 => ?_) (fun c_99 => ?_)
            · have q_100 : r_u_98.toInt = (0 : Int32).toInt := (ow_eq _ _).mp c_99
              refine lv_iload_n hx hb dX12_numeral_80 rfl (lv_at hl 2 rfl) ?_
              refine W.widen (k := 0) (n := 0) (Nat.le_of_ble_eq_true rfl) (Nat.le_of_ble_eq_true rfl) ?_
              exact W.iret (v := n) hx hb hr (fun t ht9 hW => ⟨⟨n, (v94, nm94), rfl, ⟨hv, hV_0, (show n.toInt ≤ n.toInt ∧ n.toInt ≤ n2.toInt ∧ (v94 7).toInt ≤ (v 3).toInt ∧ ((v94 4).toInt ≠ 0 ∨ ((v 4).toInt = 0 ∧ (v 8).toInt = 4)) from by rw [(show v94 7 = (v 7) from ((xu_94V 7 (by decide)).trans (xu_73V 7 (by decide))))]; first | omega | (subst_vars; first | rfl | omega)), (show 0 ≤ mz (v 3).toInt (v94 7).toInt (v94 8).toInt ∧ mz (v 3).toInt (v94 7).toInt (v94 8).toInt ≤ mz (v 3).toInt (v 7).toInt (v 8).toInt ∧ ((v94 4).toInt ≠ 0 ∨ mz (v 3).toInt (v94 7).toInt (v94 8).toInt < mz (v 3).toInt (v 7).toInt (v 8).toInt) from by rw [(show v94 7 = (v 7) from ((xu_94V 7 (by decide)).trans (xu_73V 7 (by decide)))), (show v94 8 = (v 8) from ((xu_94V 8 (by decide)).trans (xu_73V 8 (by decide))))]; omega)⟩, ⟨by rw [ht9]; exact hP, hD⟩⟩, hS.F ht9⟩) hS.2.2 dX12_numeral_81
            · have q_101 : ¬ r_u_98.toInt = (0 : Int32).toInt := by have := (not_congr (ow_eq _ _)).mp c_99; omega
              refine lv_iload_n hx hb dX12_numeral_76 rfl (lv_at hl 0 rfl) ?_
              refine lv_goto (tgt := 81) hx hb dX12_numeral_77 (by decide) ?_
              refine W.widen (k := 0) (n := 0) (Nat.le_of_ble_eq_true rfl) (Nat.le_of_ble_eq_true rfl) ?_
              exact W.iret (v := (v 9)) hx hb hr (fun t ht9 hW => ⟨⟨(v 9), (v94, nm94), rfl, ⟨hv, hV_0, (show n.toInt ≤ (v 9).toInt ∧ (v 9).toInt ≤ n2.toInt ∧ (v94 7).toInt ≤ (v 3).toInt ∧ ((v94 4).toInt ≠ 0 ∨ ((v 4).toInt = 0 ∧ (v 8).toInt = 4)) from by rw [(show v94 7 = (v 7) from ((xu_94V 7 (by decide)).trans (xu_73V 7 (by decide))))]; first | omega | (subst_vars; first | rfl | omega)), (show 0 ≤ mz (v 3).toInt (v94 7).toInt (v94 8).toInt ∧ mz (v 3).toInt (v94 7).toInt (v94 8).toInt ≤ mz (v 3).toInt (v 7).toInt (v 8).toInt ∧ ((v94 4).toInt ≠ 0 ∨ mz (v 3).toInt (v94 7).toInt (v94 8).toInt < mz (v 3).toInt (v 7).toInt (v 8).toInt) from by rw [(show v94 7 = (v 7) from ((xu_94V 7 (by decide)).trans (xu_73V 7 (by decide)))), (show v94 8 = (v 8) from ((xu_94V 8 (by decide)).trans (xu_73V 8 (by decide))))]; omega)⟩, ⟨by rw [ht9]; exact hP, hD⟩⟩, hS.F ht9⟩) hS.2.2 dX12_numeral_81
          · have q_102 : ¬ r_u_95.toInt = (0 : Int32).toInt := by have := (not_congr (ow_eq _ _)).mp c_96; omega
            refine lv_aload_n hx hb dX12_numeral_65 rfl (lv_at hl 1 rfl) ?_
            have hFc := fr_free hD hS hA
            refine va_callv (va_runV (As := []) (rest := []) ⟨hx, hb, hml, hown, ht⟩ (m_goOn l G cy _ mo h T v94 nm94 f g   hv hf hR hL (show (v94 7).toInt ≤ (v94 3).toInt from by rw [(show v94 7 = (v 7) from ((xu_94V 7 (by decide)).trans (xu_73V 7 (by decide)))), (show v94 3 = (v 3) from ((xu_94V 3 (by decide)).trans (xu_73V 3 (by decide))))]; omega)) (cwV 0 ht (gv k_232 k_233 k_234 k_61 k_231) rfl rfl rfl (by decide +kernel) ⟨Nat.le_of_ble_eq_true rfl, Nat.le_of_ble_eq_true rfl⟩) ⟨En.blind, va_recv hK hP (ci := 12) (q0 := 0) rfl rfl, fun U hU hW => ⟨rfl, En.of hU hW hP hK hD hN⟩⟩ rfl rfl hl.1 rfl (lv_room (Nat.le_of_ble_eq_true rfl)) dX12_numeral_66 ⟨Nat.le_of_ble_eq_true rfl, Nat.le_of_ble_eq_true rfl⟩) hS (fun q _ h => hFc q h) hFc (fun u_103 t9 H locs ht9 hvm hw hB hz1 hk1 hS => ?_)
            obtain ⟨v103, nm103⟩ := u_103
            obtain ⟨hP1, hD1⟩ := hB
            rw [ht9] at hP1
            obtain ⟨hv, xu_103V, wu_103, xu_103_M⟩ := hw
            dsimp only at hv xu_103V wu_103 xu_103_M
            have hP : va_P G vwCl (WMs cy mo h v103 nm103 f g) H := hP1
            have hD : va_D A (WMs cy mo h v103 nm103 f g) := hD1.weaken (fun _ _ _ h => hFc _ h)
            have hR : RI v103 f := RI.fv hR xu_103V (by decide)
            have hL : WL v103 f := WL.fv hL xu_103V (by decide) (by decide)
            have hV_0 := FV.tr hV_0 xu_103V (by decide)
            clear hFc hk1 hz1 hP1 hD1
            have wu_103 : ((v103 7).toInt ≤ (v 3).toInt ∧ (((v103 8).toInt = 0 ∧ (v103 7).toInt = (v 3).toInt) ∨ ((v103 8).toInt ≠ 0 ∧ (v 7).toInt < (v103 7).toInt))) := by
              have h9 : ((v103 7).toInt ≤ (v94 3).toInt ∧ (((v103 8).toInt = 0 ∧ (v103 7).toInt = (v94 3).toInt) ∨ ((v103 8).toInt ≠ 0 ∧ (v94 7).toInt < (v103 7).toInt))) := wu_103
              rw [(show v94 3 = (v 3) from ((xu_94V 3 (by decide)).trans (xu_73V 3 (by decide)))), (show v94 7 = (v 7) from ((xu_94V 7 (by decide)).trans (xu_73V 7 (by decide))))] at h9
              exact h9
            have xu_103_M : 0 ≤ mz (v 3).toInt (v103 7).toInt (v103 8).toInt ∧ mz (v 3).toInt (v103 7).toInt (v103 8).toInt ≤ mz (v 3).toInt (v 7).toInt (v 8).toInt ∧ ((v 8).toInt = 0 ∨ mz (v 3).toInt (v103 7).toInt (v103 8).toInt < mz (v 3).toInt (v 7).toInt (v 8).toInt) := by
              have h9 : 0 ≤ mz (v94 3).toInt (v103 7).toInt (v103 8).toInt ∧ mz (v94 3).toInt (v103 7).toInt (v103 8).toInt ≤ mz (v94 3).toInt (v94 7).toInt (v94 8).toInt ∧ ((v94 8).toInt = 0 ∨ mz (v94 3).toInt (v103 7).toInt (v103 8).toInt < mz (v94 3).toInt (v94 7).toInt (v94 8).toInt) := xu_103_M
              rw [(show v94 3 = (v 3) from ((xu_94V 3 (by decide)).trans (xu_73V 3 (by decide)))), (show v94 7 = (v 7) from ((xu_94V 7 (by decide)).trans (xu_73V 7 (by decide)))), (show v94 8 = (v 8) from ((xu_94V 8 (by decide)).trans (xu_73V 8 (by decide))))] at h9
              exact h9
            refine lv_aload_n hx hb dX12_numeral_69 rfl (lv_at hl 1 rfl) ?_
            have hFc := fr_new hS hA
            refine va_calli (va_runV (As := []) (rest := []) ⟨hx, hb, hml, hown, ht⟩ (m_isGood l G cy _ mo h T v103 nm103 f g   hv hf hR hL) (cwV 0 ht (gv k_224 k_225 k_226 k_61 k_223) rfl rfl rfl (by decide +kernel) ⟨Nat.le_of_ble_eq_true rfl, Nat.le_of_ble_eq_true rfl⟩) ⟨En.blind, va_recv hK hP (ci := 12) (q0 := 0) rfl rfl, fun U hU hW => ⟨rfl, En.of hU hW hP hK hD hN⟩⟩ rfl rfl hl.1 rfl (lv_room (Nat.le_of_ble_eq_true rfl)) dX12_numeral_70 ⟨Nat.le_of_ble_eq_true rfl, Nat.le_of_ble_eq_true rfl⟩) hS (fun q _ h => hFc q h) hFc (fun r_u_104 u_104 t9 H locs ht9 hvm hw hB hz1 hk1 hS => ?_)
            have hP := fr_keep hP hk1
            have wu_104 := hw
            clear hFc hk1 hz1 hB hw
            have wu_104 : (r_u_104.toInt = 0 ∨ r_u_104.toInt = 1) ∧ ((r_u_104.toInt = 1 ∧ (v94 4).toInt = 0) ∨ (r_u_104.toInt = 0 ∧ (v94 4).toInt ≠ 0)) := by
              have h9 : (r_u_104.toInt = 0 ∨ r_u_104.toInt = 1) ∧ ((r_u_104.toInt = 1 ∧ (v103 4).toInt = 0) ∨ (r_u_104.toInt = 0 ∧ (v103 4).toInt ≠ 0)) := wu_104
              rw [(show v103 4 = (v94 4) from (xu_103V 4 (by decide)))] at h9
              exact h9
            refine lv_if_eq (tgt := 80) hx hb dX12_numeral_73 (by decide) (fun c_105 => ?_) (fun c_105 => ?_)
            · have q_106 : r_u_104.toInt = (0 : Int32).toInt := (ow_eq _ _).mp c_105
              refine lv_iload_n hx hb dX12_numeral_80 rfl (lv_at hl 2 rfl) ?_
              refine W.widen (k := 0) (n := 0) (Nat.le_of_ble_eq_true rfl) (Nat.le_of_ble_eq_true rfl) ?_
              exact W.iret (v := n) hx hb hr (fun t ht9 hW => ⟨⟨n, (v103, nm103), rfl, ⟨hv, hV_0, (show n.toInt ≤ n.toInt ∧ n.toInt ≤ n2.toInt ∧ (v103 7).toInt ≤ (v 3).toInt ∧ ((v103 4).toInt ≠ 0 ∨ ((v 4).toInt = 0 ∧ (v 8).toInt = 4)) from by rw [(show v103 4 = (v94 4) from (xu_103V 4 (by decide)))]; first | omega | (subst_vars; first | rfl | omega)), (show 0 ≤ mz (v 3).toInt (v103 7).toInt (v103 8).toInt ∧ mz (v 3).toInt (v103 7).toInt (v103 8).toInt ≤ mz (v 3).toInt (v 7).toInt (v 8).toInt ∧ ((v103 4).toInt ≠ 0 ∨ mz (v 3).toInt (v103 7).toInt (v103 8).toInt < mz (v 3).toInt (v 7).toInt (v 8).toInt) from by rw [(show v103 4 = (v94 4) from (xu_103V 4 (by decide)))]; omega)⟩, ⟨by rw [ht9]; exact hP, hD⟩⟩, hS.F ht9⟩) hS.2.2 dX12_numeral_81
            · have q_107 : ¬ r_u_104.toInt = (0 : Int32).toInt := by have := (not_congr (ow_eq _ _)).mp c_105; omega
              refine lv_iload_n hx hb dX12_numeral_76 rfl (lv_at hl 0 rfl) ?_
              refine lv_goto (tgt := 81) hx hb dX12_numeral_77 (by decide) ?_
              refine W.widen (k := 0) (n := 0) (Nat.le_of_ble_eq_true rfl) (Nat.le_of_ble_eq_true rfl) ?_
              exact W.iret (v := (v 9)) hx hb hr (fun t ht9 hW => ⟨⟨(v 9), (v103, nm103), rfl, ⟨hv, hV_0, (show n.toInt ≤ (v 9).toInt ∧ (v 9).toInt ≤ n2.toInt ∧ (v103 7).toInt ≤ (v 3).toInt ∧ ((v103 4).toInt ≠ 0 ∨ ((v 4).toInt = 0 ∧ (v 8).toInt = 4)) from by rw [(show v103 4 = (v94 4) from (xu_103V 4 (by decide)))]; first | omega | (subst_vars; first | rfl | omega)), (show 0 ≤ mz (v 3).toInt (v103 7).toInt (v103 8).toInt ∧ mz (v 3).toInt (v103 7).toInt (v103 8).toInt ≤ mz (v 3).toInt (v 7).toInt (v 8).toInt ∧ ((v103 4).toInt ≠ 0 ∨ mz (v 3).toInt (v103 7).toInt (v103 8).toInt < mz (v 3).toInt (v 7).toInt (v 8).toInt) from by rw [(show v103 4 = (v94 4) from (xu_103V 4 (by decide)))]; omega)⟩, ⟨by rw [ht9]; exact hP, hD⟩⟩, hS.F ht9⟩) hS.2.2 dX12_numeral_81
        · have q_108 : n.toInt ≤ (v 9).toInt := by have := (not_congr (ow_lt _ _)).mp c_91; omega
          refine lv_aload_n hx hb dX12_numeral_36 rfl (lv_at hl 0 rfl) ?_
          refine mg_9 hx hb ht hown hK hP dX12_numeral_37 ?_
          refine ow_top (v 9) (xu_73V 9 (by decide)) ?_
          refine lv_iload_n hx hb dX12_numeral_40 rfl (lv_at hl 2 rfl) ?_
          refine lv_icmp_le (tgt := 53) hx hb dX12_numeral_41 (by decide) (fun c_109 => ?_) (fun c_109 => ?_)
          · have q_110 : (v 9).toInt ≤ n2.toInt := (ow_le _ _).mp c_109
            refine lv_aload_n hx hb dX12_numeral_53 rfl (lv_at hl 0 rfl) ?_
            refine mg_9 hx hb ht hown hK hP dX12_numeral_54 ?_
            refine ow_top (v 9) (xu_73V 9 (by decide)) ?_
            refine lv_istore_n (lv' := [(3, .int (v 9)), (0, .ref mo), (1, .int n), (2, .int n2)]) hx hb dX12_numeral_57 rfl hl (by decide) rfl (fun ls hl => ?_)
            refine lv_aload_n hx hb dX12_numeral_58 rfl (lv_at hl 1 rfl) ?_
            have hFc := fr_new hS hA
            refine va_calli (va_runV (As := []) (rest := []) ⟨hx, hb, hml, hown, ht⟩ (m_isGood l G cy _ mo h T v73 nm73 f g   hv hf hR hL) (cwV 0 ht (gv k_224 k_225 k_226 k_61 k_223) rfl rfl rfl (by decide +kernel) ⟨Nat.le_of_ble_eq_true rfl, Nat.le_of_ble_eq_true rfl⟩) ⟨En.blind, va_recv hK hP (ci := 12) (q0 := 0) rfl rfl, fun U hU hW => ⟨rfl, En.of hU hW hP hK hD hN⟩⟩ rfl rfl hl.1 rfl (lv_room (Nat.le_of_ble_eq_true rfl)) dX12_numeral_59 ⟨Nat.le_of_ble_eq_true rfl, Nat.le_of_ble_eq_true rfl⟩) hS (fun q _ h => hFc q h) hFc (fun r_u_111 u_111 t9 H locs ht9 hvm hw hB hz1 hk1 hS => ?_)
            have hP := fr_keep hP hk1
            have wu_111 := hw
            clear hFc hk1 hz1 hB hw
            have wu_111 : (r_u_111.toInt = 0 ∨ r_u_111.toInt = 1) ∧ ((r_u_111.toInt = 1 ∧ (v73 4).toInt = 0) ∨ (r_u_111.toInt = 0 ∧ (v73 4).toInt ≠ 0)) := wu_111
            refine lv_if_eq (tgt := 69) hx hb dX12_numeral_62 (by decide) (fun c_112 => ?_) (fun c_112 => ?_)
            · have q_113 : r_u_111.toInt = (0 : Int32).toInt := (ow_eq _ _).mp c_112
              refine lv_aload_n hx hb dX12_numeral_69 rfl (lv_at hl 1 rfl) ?_
              have hFc := fr_new hS hA
              refine va_calli (va_runV (As := []) (rest := []) ⟨hx, hb, hml, hown, ht⟩ (m_isGood l G cy _ mo h T v73 nm73 f g   hv hf hR hL) (cwV 0 ht (gv k_224 k_225 k_226 k_61 k_223) rfl rfl rfl (by decide +kernel) ⟨Nat.le_of_ble_eq_true rfl, Nat.le_of_ble_eq_true rfl⟩) ⟨En.blind, va_recv hK hP (ci := 12) (q0 := 0) rfl rfl, fun U hU hW => ⟨rfl, En.of hU hW hP hK hD hN⟩⟩ rfl rfl hl.1 rfl (lv_room (Nat.le_of_ble_eq_true rfl)) dX12_numeral_70 ⟨Nat.le_of_ble_eq_true rfl, Nat.le_of_ble_eq_true rfl⟩) hS (fun q _ h => hFc q h) hFc (fun r_u_114 u_114 t9 H locs ht9 hvm hw hB hz1 hk1 hS => ?_)
              have hP := fr_keep hP hk1
              have wu_114 := hw
              clear hFc hk1 hz1 hB hw
              have wu_114 : (r_u_114.toInt = 0 ∨ r_u_114.toInt = 1) ∧ ((r_u_114.toInt = 1 ∧ (v73 4).toInt = 0) ∨ (r_u_114.toInt = 0 ∧ (v73 4).toInt ≠ 0)) := wu_114
              refine lv_if_eq (tgt := 80) hx hb dX12_numeral_73 (by decide) (fun c_115 => ?_) (fun c_115 => ?_)
              · have q_116 : r_u_114.toInt = (0 : Int32).toInt := (ow_eq _ _).mp c_115
                refine lv_iload_n hx hb dX12_numeral_80 rfl (lv_at hl 2 rfl) ?_
                refine W.widen (k := 0) (n := 0) (Nat.le_of_ble_eq_true rfl) (Nat.le_of_ble_eq_true rfl) ?_
                exact W.iret (v := n) hx hb hr (fun t ht9 hW => ⟨⟨n, (v73, nm73), rfl, ⟨hv, hV_0, (show n.toInt ≤ n.toInt ∧ n.toInt ≤ n2.toInt ∧ (v73 7).toInt ≤ (v 3).toInt ∧ ((v73 4).toInt ≠ 0 ∨ ((v 4).toInt = 0 ∧ (v 8).toInt = 4)) from by rw [(show v73 7 = (v 7) from (xu_73V 7 (by decide)))]; first | omega | (subst_vars; first | rfl | omega)), (show 0 ≤ mz (v 3).toInt (v73 7).toInt (v73 8).toInt ∧ mz (v 3).toInt (v73 7).toInt (v73 8).toInt ≤ mz (v 3).toInt (v 7).toInt (v 8).toInt ∧ ((v73 4).toInt ≠ 0 ∨ mz (v 3).toInt (v73 7).toInt (v73 8).toInt < mz (v 3).toInt (v 7).toInt (v 8).toInt) from by rw [(show v73 7 = (v 7) from (xu_73V 7 (by decide))), (show v73 8 = (v 8) from (xu_73V 8 (by decide)))]; omega)⟩, ⟨by rw [ht9]; exact hP, hD⟩⟩, hS.F ht9⟩) hS.2.2 dX12_numeral_81
              · have q_117 : ¬ r_u_114.toInt = (0 : Int32).toInt := by have := (not_congr (ow_eq _ _)).mp c_115; omega
                refine lv_iload_n hx hb dX12_numeral_76 rfl (lv_at hl 0 rfl) ?_
                refine lv_goto (tgt := 81) hx hb dX12_numeral_77 (by decide) ?_
                refine W.widen (k := 0) (n := 0) (Nat.le_of_ble_eq_true rfl) (Nat.le_of_ble_eq_true rfl) ?_
                exact W.iret (v := (v 9)) hx hb hr (fun t ht9 hW => ⟨⟨(v 9), (v73, nm73), rfl, ⟨hv, hV_0, (show n.toInt ≤ (v 9).toInt ∧ (v 9).toInt ≤ n2.toInt ∧ (v73 7).toInt ≤ (v 3).toInt ∧ ((v73 4).toInt ≠ 0 ∨ ((v 4).toInt = 0 ∧ (v 8).toInt = 4)) from by rw [(show v73 7 = (v 7) from (xu_73V 7 (by decide)))]; first | omega | (subst_vars; first | rfl | omega)), (show 0 ≤ mz (v 3).toInt (v73 7).toInt (v73 8).toInt ∧ mz (v 3).toInt (v73 7).toInt (v73 8).toInt ≤ mz (v 3).toInt (v 7).toInt (v 8).toInt ∧ ((v73 4).toInt ≠ 0 ∨ mz (v 3).toInt (v73 7).toInt (v73 8).toInt < mz (v 3).toInt (v 7).toInt (v 8).toInt) from by rw [(show v73 7 = (v 7) from (xu_73V 7 (by decide))), (show v73 8 = (v 8) from (xu_73V 8 (by decide)))]; omega)⟩, ⟨by rw [ht9]; exact hP, hD⟩⟩, hS.F ht9⟩) hS.2.2 dX12_numeral_81
            · have q_118 : ¬ r_u_111.toInt = (0 : Int32).toInt := by have := (not_congr (ow_eq _ _)).mp c_112; omega
              refine lv_aload_n hx hb dX12_numeral_65 rfl (lv_at hl 1 rfl) ?_
              have hFc := fr_free hD hS hA
              refine va_callv (va_runV (As := []) (rest := []) ⟨hx, hb, hml, hown, ht⟩ (m_goOn l G cy _ mo h T v73 nm73 f g   hv hf hR hL (show (v73 7).toInt ≤ (v73 3).toInt from by rw [(show v73 7 = (v 7) from (xu_73V 7 (by decide))), (show v73 3 = (v 3) from (xu_73V 3 (by decide)))]; omega)) (cwV 0 ht (gv k_232 k_233 k_234 k_61 k_231) rfl rfl rfl (by decide +kernel) ⟨Nat.le_of_ble_eq_true rfl, Nat.le_of_ble_eq_true rfl⟩) ⟨En.blind, va_recv hK hP (ci := 12) (q0 := 0) rfl rfl, fun U hU hW => ⟨rfl, En.of hU hW hP hK hD hN⟩⟩ rfl rfl hl.1 rfl (lv_room (Nat.le_of_ble_eq_true rfl)) dX12_numeral_66 ⟨Nat.le_of_ble_eq_true rfl, Nat.le_of_ble_eq_true rfl⟩) hS (fun q _ h => hFc q h) hFc (fun u_119 t9 H locs ht9 hvm hw hB hz1 hk1 hS => ?_)
              obtain ⟨v119, nm119⟩ := u_119
              obtain ⟨hP1, hD1⟩ := hB
              rw [ht9] at hP1
              obtain ⟨hv, xu_119V, wu_119, xu_119_M⟩ := hw
              dsimp only at hv xu_119V wu_119 xu_119_M
              have hP : va_P G vwCl (WMs cy mo h v119 nm119 f g) H := hP1
              have hD : va_D A (WMs cy mo h v119 nm119 f g) := hD1.weaken (fun _ _ _ h => hFc _ h)
              have hR : RI v119 f := RI.fv hR xu_119V (by decide)
              have hL : WL v119 f := WL.fv hL xu_119V (by decide) (by decide)
              have hV_0 := FV.tr hV_0 xu_119V (by decide)
              clear hFc hk1 hz1 hP1 hD1
              have wu_119 : ((v119 7).toInt ≤ (v 3).toInt ∧ (((v119 8).toInt = 0 ∧ (v119 7).toInt = (v 3).toInt) ∨ ((v119 8).toInt ≠ 0 ∧ (v 7).toInt < (v119 7).toInt))) := by
                have h9 : ((v119 7).toInt ≤ (v73 3).toInt ∧ (((v119 8).toInt = 0 ∧ (v119 7).toInt = (v73 3).toInt) ∨ ((v119 8).toInt ≠ 0 ∧ (v73 7).toInt < (v119 7).toInt))) := wu_119
                rw [(show v73 3 = (v 3) from (xu_73V 3 (by decide))), (show v73 7 = (v 7) from (xu_73V 7 (by decide)))] at h9
                exact h9
              have xu_119_M : 0 ≤ mz (v 3).toInt (v119 7).toInt (v119 8).toInt ∧ mz (v 3).toInt (v119 7).toInt (v119 8).toInt ≤ mz (v 3).toInt (v 7).toInt (v 8).toInt ∧ ((v 8).toInt = 0 ∨ mz (v 3).toInt (v119 7).toInt (v119 8).toInt < mz (v 3).toInt (v 7).toInt (v 8).toInt) := by
                have h9 : 0 ≤ mz (v73 3).toInt (v119 7).toInt (v119 8).toInt ∧ mz (v73 3).toInt (v119 7).toInt (v119 8).toInt ≤ mz (v73 3).toInt (v73 7).toInt (v73 8).toInt ∧ ((v73 8).toInt = 0 ∨ mz (v73 3).toInt (v119 7).toInt (v119 8).toInt < mz (v73 3).toInt (v73 7).toInt (v73 8).toInt) := xu_119_M
                rw [(show v73 3 = (v 3) from (xu_73V 3 (by decide))), (show v73 7 = (v 7) from (xu_73V 7 (by decide))), (show v73 8 = (v 8) from (xu_73V 8 (by decide)))] at h9
                exact h9
              refine lv_aload_n hx hb dX12_numeral_69 rfl (lv_at hl 1 rfl) ?_
              have hFc := fr_new hS hA
              refine va_calli (va_runV (As := []) (rest := []) ⟨hx, hb, hml, hown, ht⟩ (m_isGood l G cy _ mo h T v119 nm119 f g   hv hf hR hL) (cwV 0 ht (gv k_224 k_225 k_226 k_61 k_223) rfl rfl rfl (by decide +kernel) ⟨Nat.le_of_ble_eq_true rfl, Nat.le_of_ble_eq_true rfl⟩) ⟨En.blind, va_recv hK hP (ci := 12) (q0 := 0) rfl rfl, fun U hU hW => ⟨rfl, En.of hU hW hP hK hD hN⟩⟩ rfl rfl hl.1 rfl (lv_room (Nat.le_of_ble_eq_true rfl)) dX12_numeral_70 ⟨Nat.le_of_ble_eq_true rfl, Nat.le_of_ble_eq_true rfl⟩) hS (fun q _ h => hFc q h) hFc (fun r_u_120 u_120 t9 H locs ht9 hvm hw hB hz1 hk1 hS => ?_)
              have hP := fr_keep hP hk1
              have wu_120 := hw
              clear hFc hk1 hz1 hB hw
              have wu_120 : (r_u_120.toInt = 0 ∨ r_u_120.toInt = 1) ∧ ((r_u_120.toInt = 1 ∧ (v73 4).toInt = 0) ∨ (r_u_120.toInt = 0 ∧ (v73 4).toInt ≠ 0)) := by
                have h9 : (r_u_120.toInt = 0 ∨ r_u_120.toInt = 1) ∧ ((r_u_120.toInt = 1 ∧ (v119 4).toInt = 0) ∨ (r_u_120.toInt = 0 ∧ (v119 4).toInt ≠ 0)) := wu_120
                rw [(show v119 4 = (v73 4) from (xu_119V 4 (by decide)))] at h9
                exact h9
              refine lv_if_eq (tgt := 80) hx hb dX12_numeral_73 (by decide) (fun c_121 => ?_) (fun c_121 => ?_)
              · have q_122 : r_u_120.toInt = (0 : Int32).toInt := (ow_eq _ _).mp c_121
                refine lv_iload_n hx hb dX12_numeral_80 rfl (lv_at hl 2 rfl) ?_
                refine W.widen (k := 0) (n := 0) (Nat.le_of_ble_eq_true rfl) (Nat.le_of_ble_eq_true rfl) ?_
                exact W.iret (v := n) hx hb hr (fun t ht9 hW => ⟨⟨n, (v119, nm119), rfl, ⟨hv, hV_0, (show n.toInt ≤ n.toInt ∧ n.toInt ≤ n2.toInt ∧ (v119 7).toInt ≤ (v 3).toInt ∧ ((v119 4).toInt ≠ 0 ∨ ((v 4).toInt = 0 ∧ (v 8).toInt = 4)) from by rw [(show v119 4 = (v73 4) from (xu_119V 4 (by decide)))]; first | omega | (subst_vars; first | rfl | omega)), (show 0 ≤ mz (v 3).toInt (v119 7).toInt (v119 8).toInt ∧ mz (v 3).toInt (v119 7).toInt (v119 8).toInt ≤ mz (v 3).toInt (v 7).toInt (v 8).toInt ∧ ((v119 4).toInt ≠ 0 ∨ mz (v 3).toInt (v119 7).toInt (v119 8).toInt < mz (v 3).toInt (v 7).toInt (v 8).toInt) from by rw [(show v119 4 = (v73 4) from (xu_119V 4 (by decide)))]; omega)⟩, ⟨by rw [ht9]; exact hP, hD⟩⟩, hS.F ht9⟩) hS.2.2 dX12_numeral_81
              · have q_123 : ¬ r_u_120.toInt = (0 : Int32).toInt := by have := (not_congr (ow_eq _ _)).mp c_121; omega
                refine lv_iload_n hx hb dX12_numeral_76 rfl (lv_at hl 0 rfl) ?_
                refine lv_goto (tgt := 81) hx hb dX12_numeral_77 (by decide) ?_
                refine W.widen (k := 0) (n := 0) (Nat.le_of_ble_eq_true rfl) (Nat.le_of_ble_eq_true rfl) ?_
                exact W.iret (v := (v 9)) hx hb hr (fun t ht9 hW => ⟨⟨(v 9), (v119, nm119), rfl, ⟨hv, hV_0, (show n.toInt ≤ (v 9).toInt ∧ (v 9).toInt ≤ n2.toInt ∧ (v119 7).toInt ≤ (v 3).toInt ∧ ((v119 4).toInt ≠ 0 ∨ ((v 4).toInt = 0 ∧ (v 8).toInt = 4)) from by rw [(show v119 4 = (v73 4) from (xu_119V 4 (by decide)))]; first | omega | (subst_vars; first | rfl | omega)), (show 0 ≤ mz (v 3).toInt (v119 7).toInt (v119 8).toInt ∧ mz (v 3).toInt (v119 7).toInt (v119 8).toInt ≤ mz (v 3).toInt (v 7).toInt (v 8).toInt ∧ ((v119 4).toInt ≠ 0 ∨ mz (v 3).toInt (v119 7).toInt (v119 8).toInt < mz (v 3).toInt (v 7).toInt (v 8).toInt) from by rw [(show v119 4 = (v73 4) from (xu_119V 4 (by decide)))]; omega)⟩, ⟨by rw [ht9]; exact hP, hD⟩⟩, hS.F ht9⟩) hS.2.2 dX12_numeral_81
          · have q_124 : n2.toInt < (v 9).toInt := by have := (not_congr (ow_le _ _)).mp c_109; omega
            refine lv_aload_n hx hb dX12_numeral_44 rfl (lv_at hl 0 rfl) ?_
            refine lv_iconst (v := 4) hx hb dX12_numeral_45 (by decide) ?_
            refine lv_aload_n hx hb dX12_numeral_46 rfl (lv_at hl 0 rfl) ?_
            refine mg_6 hx hb ht hown hK hP dX12_numeral_47 ?_
            refine ow_top (v 6) (xu_73V 6 (by decide)) ?_
            have q_125 : 0 ≤ (v 6).toInt ∧ (v 6).toInt ≤ 1700 := by have h9 : v73 6 = (v 6) := (xu_73V 6 (by decide)); rw [← h9]; exact hv 6
            have hFc := fr_free hD hS hA
            refine va_callv (va_runV (As := [.int 4, .int (v 6)]) (rest := []) ⟨hx, hb, hml, hown, ht⟩ (m_fails l G cy _ mo h T v73 nm73 f g (4) (v 6)  hv hf hR hL (by omega)) (cwV 2 ht (gv k_211 k_212 k_213 k_61 k_210) rfl rfl rfl (by decide +kernel) ⟨Nat.le_of_ble_eq_true rfl, Nat.le_of_ble_eq_true rfl⟩) ⟨En.blind, va_recv hK hP (ci := 12) (q0 := 0) rfl rfl, fun U hU hW => ⟨rfl, En.of hU hW hP hK hD hN⟩⟩ rfl rfl hl.1 rfl (lv_room (Nat.le_of_ble_eq_true rfl)) dX12_numeral_50 ⟨Nat.le_of_ble_eq_true rfl, Nat.le_of_ble_eq_true rfl⟩) hS (fun q _ h => hFc q h) hFc (fun u_126 t9 H locs ht9 hvm hw hB hz1 hk1 hS => ?_)
            obtain ⟨v126, nm126⟩ := u_126
            obtain ⟨hP1, hD1⟩ := hB
            rw [ht9] at hP1
            obtain ⟨hv, xu_126V, wu_126⟩ := hw
            dsimp only at hv xu_126V wu_126
            have hP : va_P G vwCl (WMs cy mo h v126 nm126 f g) H := hP1
            have hD : va_D A (WMs cy mo h v126 nm126 f g) := hD1.weaken (fun _ _ _ h => hFc _ h)
            have hR : RI v126 f := RI.fv hR xu_126V (by decide)
            have hL : WL v126 f := WL.fv hL xu_126V (by decide) (by decide)
            have hV_0 := FV.tr hV_0 xu_126V (by decide)
            clear hFc hk1 hz1 hP1 hD1
            have wu_126 : (1 ≤ (v126 4).toInt) := wu_126
            refine lv_aload_n hx hb dX12_numeral_53 rfl (lv_at hl 0 rfl) ?_
            refine mg_9 hx hb ht hown hK hP dX12_numeral_54 ?_
            refine ow_top (v 9) ((xu_126V 9 (by decide)).trans (xu_73V 9 (by decide))) ?_
            refine lv_istore_n (lv' := [(3, .int (v 9)), (0, .ref mo), (1, .int n), (2, .int n2)]) hx hb dX12_numeral_57 rfl hl (by decide) rfl (fun ls hl => ?_)
            refine lv_aload_n hx hb dX12_numeral_58 rfl (lv_at hl 1 rfl) ?_
            have hFc := fr_new hS hA
            refine va_calli (va_runV (As := []) (rest := []) ⟨hx, hb, hml, hown, ht⟩ (m_isGood l G cy _ mo h T v126 nm126 f g   hv hf hR hL) (cwV 0 ht (gv k_224 k_225 k_226 k_61 k_223) rfl rfl rfl (by decide +kernel) ⟨Nat.le_of_ble_eq_true rfl, Nat.le_of_ble_eq_true rfl⟩) ⟨En.blind, va_recv hK hP (ci := 12) (q0 := 0) rfl rfl, fun U hU hW => ⟨rfl, En.of hU hW hP hK hD hN⟩⟩ rfl rfl hl.1 rfl (lv_room (Nat.le_of_ble_eq_true rfl)) dX12_numeral_59 ⟨Nat.le_of_ble_eq_true rfl, Nat.le_of_ble_eq_true rfl⟩) hS (fun q _ h => hFc q h) hFc (fun r_u_127 u_127 t9 H locs ht9 hvm hw hB hz1 hk1 hS => ?_)
            have hP := fr_keep hP hk1
            have wu_127 := hw
            clear hFc hk1 hz1 hB hw
            have wu_127 : (r_u_127.toInt = 0 ∨ r_u_127.toInt = 1) ∧ ((r_u_127.toInt = 1 ∧ (v126 4).toInt = 0) ∨ (r_u_127.toInt = 0 ∧ (v126 4).toInt ≠ 0)) := wu_127
            refine lv_if_eq (tgt := 69) hx hb dX12_numeral_62 (by decide) (fun c_128 => ?_) (fun c_128 => ?_)
            · have q_129 : r_u_127.toInt = (0 : Int32).toInt := (ow_eq _ _).mp c_128
              refine lv_aload_n hx hb dX12_numeral_69 rfl (lv_at hl 1 rfl) ?_
              have hFc := fr_new hS hA
              refine va_calli (va_runV (As := []) (rest := []) ⟨hx, hb, hml, hown, ht⟩ (m_isGood l G cy _ mo h T v126 nm126 f g   hv hf hR hL) (cwV 0 ht (gv k_224 k_225 k_226 k_61 k_223) rfl rfl rfl (by decide +kernel) ⟨Nat.le_of_ble_eq_true rfl, Nat.le_of_ble_eq_true rfl⟩) ⟨En.blind, va_recv hK hP (ci := 12) (q0 := 0) rfl rfl, fun U hU hW => ⟨rfl, En.of hU hW hP hK hD hN⟩⟩ rfl rfl hl.1 rfl (lv_room (Nat.le_of_ble_eq_true rfl)) dX12_numeral_70 ⟨Nat.le_of_ble_eq_true rfl, Nat.le_of_ble_eq_true rfl⟩) hS (fun q _ h => hFc q h) hFc (fun r_u_130 u_130 t9 H locs ht9 hvm hw hB hz1 hk1 hS => ?_)
              have hP := fr_keep hP hk1
              have wu_130 := hw
              clear hFc hk1 hz1 hB hw
              have wu_130 : (r_u_130.toInt = 0 ∨ r_u_130.toInt = 1) ∧ ((r_u_130.toInt = 1 ∧ (v126 4).toInt = 0) ∨ (r_u_130.toInt = 0 ∧ (v126 4).toInt ≠ 0)) := wu_130
              refine lv_if_eq (tgt := 80) hx hb dX12_numeral_73 (by decide) (fun c_131 => ?_) (fun c_131 => ?_)
              · have q_132 : r_u_130.toInt = (0 : Int32).toInt := (ow_eq _ _).mp c_131
                refine lv_iload_n hx hb dX12_numeral_80 rfl (lv_at hl 2 rfl) ?_
                refine W.widen (k := 0) (n := 0) (Nat.le_of_ble_eq_true rfl) (Nat.le_of_ble_eq_true rfl) ?_
                exact W.iret (v := n) hx hb hr (fun t ht9 hW => ⟨⟨n, (v126, nm126), rfl, ⟨hv, hV_0, (show n.toInt ≤ n.toInt ∧ n.toInt ≤ n2.toInt ∧ (v126 7).toInt ≤ (v 3).toInt ∧ ((v126 4).toInt ≠ 0 ∨ ((v 4).toInt = 0 ∧ (v 8).toInt = 4)) from by rw [(show v126 7 = (v 7) from ((xu_126V 7 (by decide)).trans (xu_73V 7 (by decide))))]; first | omega | (subst_vars; first | rfl | omega)), (show 0 ≤ mz (v 3).toInt (v126 7).toInt (v126 8).toInt ∧ mz (v 3).toInt (v126 7).toInt (v126 8).toInt ≤ mz (v 3).toInt (v 7).toInt (v 8).toInt ∧ ((v126 4).toInt ≠ 0 ∨ mz (v 3).toInt (v126 7).toInt (v126 8).toInt < mz (v 3).toInt (v 7).toInt (v 8).toInt) from by rw [(show v126 7 = (v 7) from ((xu_126V 7 (by decide)).trans (xu_73V 7 (by decide)))), (show v126 8 = (v 8) from ((xu_126V 8 (by decide)).trans (xu_73V 8 (by decide))))]; omega)⟩, ⟨by rw [ht9]; exact hP, hD⟩⟩, hS.F ht9⟩) hS.2.2 dX12_numeral_81
              · have q_133 : ¬ r_u_130.toInt = (0 : Int32).toInt := by have := (not_congr (ow_eq _ _)).mp c_131; omega
                refine lv_iload_n hx hb dX12_numeral_76 rfl (lv_at hl 0 rfl) ?_
                refine lv_goto (tgt := 81) hx hb dX12_numeral_77 (by decide) ?_
                refine W.widen (k := 0) (n := 0) (Nat.le_of_ble_eq_true rfl) (Nat.le_of_ble_eq_true rfl) ?_
                exact W.iret (v := (v 9)) hx hb hr (fun t ht9 hW => ⟨⟨(v 9), (v126, nm126), rfl, ⟨hv, hV_0, (show n.toInt ≤ (v 9).toInt ∧ (v 9).toInt ≤ n2.toInt ∧ (v126 7).toInt ≤ (v 3).toInt ∧ ((v126 4).toInt ≠ 0 ∨ ((v 4).toInt = 0 ∧ (v 8).toInt = 4)) from by rw [(show v126 7 = (v 7) from ((xu_126V 7 (by decide)).trans (xu_73V 7 (by decide))))]; first | omega | (subst_vars; first | rfl | omega)), (show 0 ≤ mz (v 3).toInt (v126 7).toInt (v126 8).toInt ∧ mz (v 3).toInt (v126 7).toInt (v126 8).toInt ≤ mz (v 3).toInt (v 7).toInt (v 8).toInt ∧ ((v126 4).toInt ≠ 0 ∨ mz (v 3).toInt (v126 7).toInt (v126 8).toInt < mz (v 3).toInt (v 7).toInt (v 8).toInt) from by rw [(show v126 7 = (v 7) from ((xu_126V 7 (by decide)).trans (xu_73V 7 (by decide)))), (show v126 8 = (v 8) from ((xu_126V 8 (by decide)).trans (xu_73V 8 (by decide))))]; omega)⟩, ⟨by rw [ht9]; exact hP, hD⟩⟩, hS.F ht9⟩) hS.2.2 dX12_numeral_81
            · have q_134 : ¬ r_u_127.toInt = (0 : Int32).toInt := by have := (not_congr (ow_eq _ _)).mp c_128; omega
              refine lv_aload_n hx hb dX12_numeral_65 rfl (lv_at hl 1 rfl) ?_
              have hFc := fr_free hD hS hA
              refine va_callv (va_runV (As := []) (rest := []) ⟨hx, hb, hml, hown, ht⟩ (m_goOn l G cy _ mo h T v126 nm126 f g   hv hf hR hL (show (v126 7).toInt ≤ (v126 3).toInt from by rw [(show v126 7 = (v 7) from ((xu_126V 7 (by decide)).trans (xu_73V 7 (by decide)))), (show v126 3 = (v 3) from ((xu_126V 3 (by decide)).trans (xu_73V 3 (by decide))))]; omega)) (cwV 0 ht (gv k_232 k_233 k_234 k_61 k_231) rfl rfl rfl (by decide +kernel) ⟨Nat.le_of_ble_eq_true rfl, Nat.le_of_ble_eq_true rfl⟩) ⟨En.blind, va_recv hK hP (ci := 12) (q0 := 0) rfl rfl, fun U hU hW => ⟨rfl, En.of hU hW hP hK hD hN⟩⟩ rfl rfl hl.1 rfl (lv_room (Nat.le_of_ble_eq_true rfl)) dX12_numeral_66 ⟨Nat.le_of_ble_eq_true rfl, Nat.le_of_ble_eq_true rfl⟩) hS (fun q _ h => hFc q h) hFc (fun u_135 t9 H locs ht9 hvm hw hB hz1 hk1 hS => ?_)
              obtain ⟨v135, nm135⟩ := u_135
              obtain ⟨hP1, hD1⟩ := hB
              rw [ht9] at hP1
              obtain ⟨hv, xu_135V, wu_135, xu_135_M⟩ := hw
              dsimp only at hv xu_135V wu_135 xu_135_M
              have hP : va_P G vwCl (WMs cy mo h v135 nm135 f g) H := hP1
              have hD : va_D A (WMs cy mo h v135 nm135 f g) := hD1.weaken (fun _ _ _ h => hFc _ h)
              have hR : RI v135 f := RI.fv hR xu_135V (by decide)
              have hL : WL v135 f := WL.fv hL xu_135V (by decide) (by decide)
              have hV_0 := FV.tr hV_0 xu_135V (by decide)
              clear hFc hk1 hz1 hP1 hD1
              have wu_135 : ((v135 7).toInt ≤ (v 3).toInt ∧ (((v135 8).toInt = 0 ∧ (v135 7).toInt = (v 3).toInt) ∨ ((v135 8).toInt ≠ 0 ∧ (v 7).toInt < (v135 7).toInt))) := by
                have h9 : ((v135 7).toInt ≤ (v126 3).toInt ∧ (((v135 8).toInt = 0 ∧ (v135 7).toInt = (v126 3).toInt) ∨ ((v135 8).toInt ≠ 0 ∧ (v126 7).toInt < (v135 7).toInt))) := wu_135
                rw [(show v126 3 = (v 3) from ((xu_126V 3 (by decide)).trans (xu_73V 3 (by decide)))), (show v126 7 = (v 7) from ((xu_126V 7 (by decide)).trans (xu_73V 7 (by decide))))] at h9
                exact h9
              have xu_135_M : 0 ≤ mz (v 3).toInt (v135 7).toInt (v135 8).toInt ∧ mz (v 3).toInt (v135 7).toInt (v135 8).toInt ≤ mz (v 3).toInt (v 7).toInt (v 8).toInt ∧ ((v 8).toInt = 0 ∨ mz (v 3).toInt (v135 7).toInt (v135 8).toInt < mz (v 3).toInt (v 7).toInt (v 8).toInt) := by
                have h9 : 0 ≤ mz (v126 3).toInt (v135 7).toInt (v135 8).toInt ∧ mz (v126 3).toInt (v135 7).toInt (v135 8).toInt ≤ mz (v126 3).toInt (v126 7).toInt (v126 8).toInt ∧ ((v126 8).toInt = 0 ∨ mz (v126 3).toInt (v135 7).toInt (v135 8).toInt < mz (v126 3).toInt (v126 7).toInt (v126 8).toInt) := xu_135_M
                rw [(show v126 3 = (v 3) from ((xu_126V 3 (by decide)).trans (xu_73V 3 (by decide)))), (show v126 7 = (v 7) from ((xu_126V 7 (by decide)).trans (xu_73V 7 (by decide)))), (show v126 8 = (v 8) from ((xu_126V 8 (by decide)).trans (xu_73V 8 (by decide))))] at h9
                exact h9
              refine lv_aload_n hx hb dX12_numeral_69 rfl (lv_at hl 1 rfl) ?_
              have hFc := fr_new hS hA
              refine va_calli (va_runV (As := []) (rest := []) ⟨hx, hb, hml, hown, ht⟩ (m_isGood l G cy _ mo h T v135 nm135 f g   hv hf hR hL) (cwV 0 ht (gv k_224 k_225 k_226 k_61 k_223) rfl rfl rfl (by decide +kernel) ⟨Nat.le_of_ble_eq_true rfl, Nat.le_of_ble_eq_true rfl⟩) ⟨En.blind, va_recv hK hP (ci := 12) (q0 := 0) rfl rfl, fun U hU hW => ⟨rfl, En.of hU hW hP hK hD hN⟩⟩ rfl rfl hl.1 rfl (lv_room (Nat.le_of_ble_eq_true rfl)) dX12_numeral_70 ⟨Nat.le_of_ble_eq_true rfl, Nat.le_of_ble_eq_true rfl⟩) hS (fun q _ h => hFc q h) hFc (fun r_u_136 u_136 t9 H locs ht9 hvm hw hB hz1 hk1 hS => ?_)
              have hP := fr_keep hP hk1
              have wu_136 := hw
              clear hFc hk1 hz1 hB hw
              have wu_136 : (r_u_136.toInt = 0 ∨ r_u_136.toInt = 1) ∧ ((r_u_136.toInt = 1 ∧ (v126 4).toInt = 0) ∨ (r_u_136.toInt = 0 ∧ (v126 4).toInt ≠ 0)) := by
                have h9 : (r_u_136.toInt = 0 ∨ r_u_136.toInt = 1) ∧ ((r_u_136.toInt = 1 ∧ (v135 4).toInt = 0) ∨ (r_u_136.toInt = 0 ∧ (v135 4).toInt ≠ 0)) := wu_136
                rw [(show v135 4 = (v126 4) from (xu_135V 4 (by decide)))] at h9
                exact h9
              refine lv_if_eq (tgt := 80) hx hb dX12_numeral_73 (by decide) (fun c_137 => ?_) (fun c_137 => ?_)
              · have q_138 : r_u_136.toInt = (0 : Int32).toInt := (ow_eq _ _).mp c_137
                refine lv_iload_n hx hb dX12_numeral_80 rfl (lv_at hl 2 rfl) ?_
                refine W.widen (k := 0) (n := 0) (Nat.le_of_ble_eq_true rfl) (Nat.le_of_ble_eq_true rfl) ?_
                exact W.iret (v := n) hx hb hr (fun t ht9 hW => ⟨⟨n, (v135, nm135), rfl, ⟨hv, hV_0, (show n.toInt ≤ n.toInt ∧ n.toInt ≤ n2.toInt ∧ (v135 7).toInt ≤ (v 3).toInt ∧ ((v135 4).toInt ≠ 0 ∨ ((v 4).toInt = 0 ∧ (v 8).toInt = 4)) from by rw [(show v135 4 = (v126 4) from (xu_135V 4 (by decide)))]; first | omega | (subst_vars; first | rfl | omega)), (show 0 ≤ mz (v 3).toInt (v135 7).toInt (v135 8).toInt ∧ mz (v 3).toInt (v135 7).toInt (v135 8).toInt ≤ mz (v 3).toInt (v 7).toInt (v 8).toInt ∧ ((v135 4).toInt ≠ 0 ∨ mz (v 3).toInt (v135 7).toInt (v135 8).toInt < mz (v 3).toInt (v 7).toInt (v 8).toInt) from by rw [(show v135 4 = (v126 4) from (xu_135V 4 (by decide)))]; omega)⟩, ⟨by rw [ht9]; exact hP, hD⟩⟩, hS.F ht9⟩) hS.2.2 dX12_numeral_81
              · have q_139 : ¬ r_u_136.toInt = (0 : Int32).toInt := by have := (not_congr (ow_eq _ _)).mp c_137; omega
                refine lv_iload_n hx hb dX12_numeral_76 rfl (lv_at hl 0 rfl) ?_
                refine lv_goto (tgt := 81) hx hb dX12_numeral_77 (by decide) ?_
                refine W.widen (k := 0) (n := 0) (Nat.le_of_ble_eq_true rfl) (Nat.le_of_ble_eq_true rfl) ?_
                exact W.iret (v := (v 9)) hx hb hr (fun t ht9 hW => ⟨⟨(v 9), (v135, nm135), rfl, ⟨hv, hV_0, (show n.toInt ≤ (v 9).toInt ∧ (v 9).toInt ≤ n2.toInt ∧ (v135 7).toInt ≤ (v 3).toInt ∧ ((v135 4).toInt ≠ 0 ∨ ((v 4).toInt = 0 ∧ (v 8).toInt = 4)) from by rw [(show v135 4 = (v126 4) from (xu_135V 4 (by decide)))]; first | omega | (subst_vars; first | rfl | omega)), (show 0 ≤ mz (v 3).toInt (v135 7).toInt (v135 8).toInt ∧ mz (v 3).toInt (v135 7).toInt (v135 8).toInt ≤ mz (v 3).toInt (v 7).toInt (v 8).toInt ∧ ((v135 4).toInt ≠ 0 ∨ mz (v 3).toInt (v135 7).toInt (v135 8).toInt < mz (v 3).toInt (v 7).toInt (v 8).toInt) from by rw [(show v135 4 = (v126 4) from (xu_135V 4 (by decide)))]; omega)⟩, ⟨by rw [ht9]; exact hP, hD⟩⟩, hS.F ht9⟩) hS.2.2 dX12_numeral_81
  · have q_140 : r_u_1.toInt = (0 : Int32).toInt := (ow_eq _ _).mp c_2
    refine lv_iload_n hx hb dX12_numeral_7 rfl (lv_at hl 1 rfl) ?_
    refine W.widen (k := 0) (n := 0) (Nat.le_of_ble_eq_true rfl) (Nat.le_of_ble_eq_true rfl) ?_
    exact W.iret (v := n) hx hb hr (fun t ht9 hW => ⟨⟨n, (v, nm), rfl, ⟨hv, hV_0, (show n.toInt ≤ n.toInt ∧ n.toInt ≤ n2.toInt ∧ (v 7).toInt ≤ (v 3).toInt ∧ ((v 4).toInt ≠ 0 ∨ ((v 4).toInt = 0 ∧ (v 8).toInt = 4)) from by first | omega | (subst_vars; first | rfl | omega)), (show 0 ≤ mz (v 3).toInt (v 7).toInt (v 8).toInt ∧ mz (v 3).toInt (v 7).toInt (v 8).toInt ≤ mz (v 3).toInt (v 7).toInt (v 8).toInt ∧ ((v 4).toInt ≠ 0 ∨ mz (v 3).toInt (v 7).toInt (v 8).toInt < mz (v 3).toInt (v 7).toInt (v 8).toInt) from by omega)⟩, ⟨by rw [ht9]; exact hP, hD⟩⟩, hS.F ht9⟩) hS.2.2 dX12_numeral_8
set_option maxHeartbeats 4000000 in
set_option maxRecDepth 100000 in
theorem m_hereT (l : Launch) (G : va_G) (cy : Nat → ClassId) (sz : Nat) (mo : Nat) (h : Nat → Nat) (T : Int) (v : Nat → Int32) (nm : Int64) (f : Nat → Nat → Int32) (g : Nat → Nat → Int64) (n : Int32) (n2 : Int32)  (hv : MIv T v) (hf : MIf f) (hR : RI v f) (hL : WL v f) (h_n : 0 ≤ n.toInt ∧ n.toInt ≤ 14) (h_n2 : 0 ≤ n2.toInt ∧ n2.toInt ≤ 14) (hn9 : n.toInt + n2.toInt ≤ 28) : Met l yX12_here (.code yX12_here cX12_here 5 (some .int) :: TBg) ({ frames := 1, cells := 0, slots := 0, locals := 64 }) (va_Pc [.ref mo, .ref (h 22), .int n, .int n2] (En G cy (WMs cy mo h v nm f g) sz)) (va_Qi (fun (r : Int32) (_ : Unit) => (-1 ≤ r.toInt ∧ r.toInt ≤ 13) ∧ (r.toInt < n2.toInt ∧ (r.toInt < 0 ∨ (v 8).toInt = 2))) (fun _ _ => True) (va_A [] sz)) 0 0 (va_A [] sz) := by
  refine Met.ofW (cc := cX12_here) (maxL := 5) (ret := (some .int)) (by decide) rfl ?_
  intro p e s m args below meth c s₁ B hml hv9
  obtain ⟨rfl, hsz, hP, hK, hD0, hN⟩ := hv9
  have hx := B.exec
  have hb := B.bytes
  have hr := B.returns
  have hts := atoms_spec (ws := .code yX12_here cX12_here 5 (some .int) :: TBg) B.pre
  have ht : ∀ w ∈ TBg, w.before _ s = true := fun w h => hts w (List.mem_cons_of_mem _ h)
  have hown : s.vm.findClass RX12 = some m.cls := findClass_of_methodNamed B.named
  have hlocks := B.notSynchronized
  subst hsz
  generalize hAe : va_A [] s.heap.size = A at ⊢
  have hA : ∀ q : Nat, s.heap.size ≤ q → A q := fun q h => by rw [← hAe]; exact Or.inr h
  have hS : va_S A s.heap s.heap [] := va_S.rf
  have hl := lv_entry ([.ref mo, .ref (h 22), .int n, .int n2]) (n := 5) (Nat.le_of_ble_eq_true rfl)
  rw [lg_entry_eq]
  generalize (lg_sl ([.ref mo, .ref (h 22), .int n, .int n2]) ++ List.replicate (5 - (lg_sl ([.ref mo, .ref (h 22), .int n, .int n2])).length) Slot.unset).toArray = ls at hl ⊢
  have hl : lv_has ls 5 [(0, .ref mo), (1, .ref (h 22)), (2, .int n), (3, .int n2)] := hl
  have z0 : (-1 : Int32).toInt = -1 := by decide
  have z1 : (0 : Int32).toInt = 0 := by decide
  have z2 : (1 : Int32).toInt = 1 := by decide
  have z3 : (2 : Int32).toInt = 2 := by decide
  refine lv_iconst (v := 0) hx hb dX12_here_0 (by decide) ?_
  refine lv_istore (lv' := [(4, .int 0), (0, .ref mo), (1, .ref (h 22)), (2, .int n), (3, .int n2)]) hx hb dX12_here_1 hl (by decide) rfl (fun ls hl => ?_)
  refine W.widen (k := 0) (n := 0) (Nat.le_of_ble_eq_true rfl) (Nat.le_of_ble_eq_true rfl) ?_
  have lp_1 : ∀ (N_1 : Nat) (x4_1 : Int32) (H : Heap) (locs : List Loc) (ls : Array Slot), (0 ≤ x4_1.toInt ∧ x4_1.toInt ≤ 14) → (x4_1.toInt ≤ n2.toInt) → (14 - x4_1.toInt).toNat < N_1 → va_P G vwCl (WMs cy mo h v nm f g) H → va_S A s.heap H locs → lv_has ls 5 [(4, .int x4_1), (0, .ref mo), (1, .ref (h 22)), (2, .int n), (3, .int n2)] → W p l e (headSpec (.code yX12_here cX12_here 5 (some .int) :: TBg) ({ frames := 1, cells := 0, slots := 0, locals := 64 })).room s m ([.ref mo, .ref (h 22), .int n, .int n2] : List Value).toArray below meth c H locs 0 0 (MQ below (va_Qi (fun (r : Int32) (_ : Unit) => (-1 ≤ r.toInt ∧ r.toInt ≤ 13) ∧ (r.toInt < n2.toInt ∧ (r.toInt < 0 ∨ (v 8).toInt = 2))) (fun _ _ => True) A) ([.ref mo, .ref (h 22), .int n, .int n2] : List Value).toArray s 0 0 A) (F0 m 3 ls []) := by
    intro N_1
    induction N_1 with
    | zero => intro x4_1 H locs ls qf1_0 qf1_1 hm hP hS hl; exact absurd hm (Nat.not_lt_zero _)
    | succ N_1 ih_1 =>
      intro x4_1 H locs ls qf1_0 qf1_1 hm hP hS hl
      refine lv_iload hx hb dX12_here_3 (lv_at hl 0 rfl) ?_
      refine lv_iload_n hx hb dX12_here_5 rfl (lv_at hl 4 rfl) ?_
      refine lv_icmp_ge (tgt := 40) hx hb dX12_here_6 (by decide) (fun c_2 => ?_) (fun c_2 => ?_)
      · have q_3 : n2.toInt ≤ x4_1.toInt := (ow_le _ _).mp c_2
        refine lv_iconst (v := (-1)) hx hb dX12_here_40 (by decide) ?_
        refine W.widen (k := 0) (n := 0) (Nat.le_of_ble_eq_true rfl) (Nat.le_of_ble_eq_true rfl) ?_
        exact W.iret (v := (-1)) hx hb hr (fun t ht9 hW => ⟨⟨(-1), (), rfl, ⟨(by omega), (show ((-1) : Int32).toInt < n2.toInt ∧ (((-1) : Int32).toInt < 0 ∨ (v 8).toInt = 2) from by first | omega | (subst_vars; first | rfl | omega))⟩, trivial⟩, hS.F ht9⟩) hS.2.2 dX12_here_41
      · have q_4 : x4_1.toInt < n2.toInt := by have := (not_congr (ow_le _ _)).mp c_2; omega
        refine lv_aload_n hx hb dX12_here_9 rfl (lv_at hl 1 rfl) ?_
        refine mg_8 hx hb ht hown hK hP dX12_here_10 ?_
        refine lv_iconst (v := 2) hx hb dX12_here_13 (by decide) ?_
        refine lv_icmp_ne (tgt := 34) hx hb dX12_here_14 (by decide) (fun c_5 => ?_) (fun c_5 => ?_)
        · have q_6 : ¬ (v 8).toInt = (2 : Int32).toInt := by have := (not_congr (ow_eq _ _)).mp c_5; omega
          obtain ⟨v_7, ev_7⟩ : ∃ y : Int32, y = x4_1 + 1 := ⟨_, rfl⟩
          refine lv_iinc (v := v_7) (lv' := [(4, .int v_7), (0, .ref mo), (1, .ref (h 22)), (2, .int n), (3, .int n2)]) hx hb dX12_here_34 hl (k := 0) rfl (by rw [ev_7]; rfl) (by decide) rfl (fun ls hl => ?_)
          have q_8 : v_7.toInt = x4_1.toInt + 1 := by have := ow_add ev_7 (by omega) (by omega); omega
          refine lv_goto (tgt := 3) hx hb dX12_here_37 (by decide) ?_
          refine W.widen (k := 0) (n := 0) (Nat.le_of_ble_eq_true rfl) (Nat.le_of_ble_eq_true rfl) ?_
          exact ih_1 v_7 _ _ _ (by omega) (by omega) (by omega) hP hS (lv_sub hl [0, 1, 2, 3, 4] rfl)
        · have q_9 : (v 8).toInt = (2 : Int32).toInt := (ow_eq _ _).mp c_5
          refine lv_aload_n hx hb dX12_here_17 rfl (lv_at hl 2 rfl) ?_
          refine lv_iload_n hx hb dX12_here_18 rfl (lv_at hl 3 rfl) ?_
          refine lv_iload hx hb dX12_here_19 (lv_at hl 0 rfl) ?_
          refine lv_iadd hx hb dX12_here_21 ?_
          refine lv_topi (fun v_10 ev_10 => ?_)
          have q_11 : v_10.toInt = n.toInt + x4_1.toInt := ow_add ev_10 (by omega) (by omega)
          have q_12 : vp_in v_10 28 := vp_in_iff.mpr ⟨by omega, by omega⟩
          refine ml_22 hx hb hK hP q_12 dX12_here_22 ?_
          refine lv_topl (fun v_13 ev_13 => ?_)
          refine lv_aload_n hx hb dX12_here_23 rfl (lv_at hl 1 rfl) ?_
          refine mg_10 hx hb ht hown hK hP dX12_here_24 ?_
          refine W.lcmp hx hb dX12_here_27 ?_
          refine lv_topi (fun v_14 ev_14 => ?_)
          refine lv_if_ne (tgt := 34) hx hb dX12_here_28 (by decide) (fun c_15 => ?_) (fun c_15 => ?_)
          · have q_16 : ¬ v_14.toInt = (0 : Int32).toInt := by have := (not_congr (ow_eq _ _)).mp c_15; omega
            have lc_17 : ¬ v_13 = nm := fun h9 => q_16 (by rw [ev_14, (lg_cmp_eq _ _).mpr h9])
            obtain ⟨v_18, ev_18⟩ : ∃ y : Int32, y = x4_1 + 1 := ⟨_, rfl⟩
            refine lv_iinc (v := v_18) (lv' := [(4, .int v_18), (0, .ref mo), (1, .ref (h 22)), (2, .int n), (3, .int n2)]) hx hb dX12_here_34 hl (k := 0) rfl (by rw [ev_18]; rfl) (by decide) rfl (fun ls hl => ?_)
            have q_19 : v_18.toInt = x4_1.toInt + 1 := by have := ow_add ev_18 (by omega) (by omega); omega
            refine lv_goto (tgt := 3) hx hb dX12_here_37 (by decide) ?_
            refine W.widen (k := 0) (n := 0) (Nat.le_of_ble_eq_true rfl) (Nat.le_of_ble_eq_true rfl) ?_
            exact ih_1 v_18 _ _ _ (by omega) (by omega) (by omega) hP hS (lv_sub hl [0, 1, 2, 3, 4] rfl)
          · have q_20 : v_14.toInt = (0 : Int32).toInt := (ow_eq _ _).mp c_15
            have lc_21 : v_13 = nm := (lg_cmp_eq _ _).mp (by rw [← ev_14]; exact (ow_eq _ _).mpr (by omega))
            refine lv_iload hx hb dX12_here_31 (lv_at hl 0 rfl) ?_
            refine W.widen (k := 0) (n := 0) (Nat.le_of_ble_eq_true rfl) (Nat.le_of_ble_eq_true rfl) ?_
            exact W.iret (v := x4_1) hx hb hr (fun t ht9 hW => ⟨⟨x4_1, (), rfl, ⟨(by omega), (show x4_1.toInt < n2.toInt ∧ (x4_1.toInt < 0 ∨ (v 8).toInt = 2) from by first | omega | (subst_vars; first | rfl | omega))⟩, trivial⟩, hS.F ht9⟩) hS.2.2 dX12_here_33
  exact lp_1 _ (0) _ _ _ (by omega) (by omega) (Nat.lt_succ_self _) hP hS (lv_sub hl [0, 1, 2, 3, 4] rfl)
set_option maxHeartbeats 4000000 in
set_option maxRecDepth 100000 in
theorem m_hereL (l : Launch) (G : va_G) (cy : Nat → ClassId) (sz : Nat) (mo : Nat) (h : Nat → Nat) (T : Int) (v : Nat → Int32) (nm : Int64) (f : Nat → Nat → Int32) (g : Nat → Nat → Int64) (n : Int32) (n2 : Int32)  (hv : MIv T v) (hf : MIf f) (hR : RI v f) (hL : WL v f) (h_n : 0 ≤ n.toInt ∧ n.toInt ≤ 8) (h_n2 : 0 ≤ n2.toInt ∧ n2.toInt ≤ 8) (hn9 : n.toInt + n2.toInt ≤ 16) : Met l yX12_here (.code yX12_here cX12_here 5 (some .int) :: TBg) ({ frames := 1, cells := 0, slots := 0, locals := 64 }) (va_Pc [.ref mo, .ref (h 23), .int n, .int n2] (En G cy (WMs cy mo h v nm f g) sz)) (va_Qi (fun (r : Int32) (_ : Unit) => (-1 ≤ r.toInt ∧ r.toInt ≤ 13) ∧ (r.toInt < n2.toInt ∧ (r.toInt < 0 ∨ (v 8).toInt = 2))) (fun _ _ => True) (va_A [] sz)) 0 0 (va_A [] sz) := by
  refine Met.ofW (cc := cX12_here) (maxL := 5) (ret := (some .int)) (by decide) rfl ?_
  intro p e s m args below meth c s₁ B hml hv9
  obtain ⟨rfl, hsz, hP, hK, hD0, hN⟩ := hv9
  have hx := B.exec
  have hb := B.bytes
  have hr := B.returns
  have hts := atoms_spec (ws := .code yX12_here cX12_here 5 (some .int) :: TBg) B.pre
  have ht : ∀ w ∈ TBg, w.before _ s = true := fun w h => hts w (List.mem_cons_of_mem _ h)
  have hown : s.vm.findClass RX12 = some m.cls := findClass_of_methodNamed B.named
  have hlocks := B.notSynchronized
  subst hsz
  generalize hAe : va_A [] s.heap.size = A at ⊢
  have hA : ∀ q : Nat, s.heap.size ≤ q → A q := fun q h => by rw [← hAe]; exact Or.inr h
  have hS : va_S A s.heap s.heap [] := va_S.rf
  have hl := lv_entry ([.ref mo, .ref (h 23), .int n, .int n2]) (n := 5) (Nat.le_of_ble_eq_true rfl)
  rw [lg_entry_eq]
  generalize (lg_sl ([.ref mo, .ref (h 23), .int n, .int n2]) ++ List.replicate (5 - (lg_sl ([.ref mo, .ref (h 23), .int n, .int n2])).length) Slot.unset).toArray = ls at hl ⊢
  have hl : lv_has ls 5 [(0, .ref mo), (1, .ref (h 23)), (2, .int n), (3, .int n2)] := hl
  have z0 : (-1 : Int32).toInt = -1 := by decide
  have z1 : (0 : Int32).toInt = 0 := by decide
  have z2 : (1 : Int32).toInt = 1 := by decide
  have z3 : (2 : Int32).toInt = 2 := by decide
  refine lv_iconst (v := 0) hx hb dX12_here_0 (by decide) ?_
  refine lv_istore (lv' := [(4, .int 0), (0, .ref mo), (1, .ref (h 23)), (2, .int n), (3, .int n2)]) hx hb dX12_here_1 hl (by decide) rfl (fun ls hl => ?_)
  refine W.widen (k := 0) (n := 0) (Nat.le_of_ble_eq_true rfl) (Nat.le_of_ble_eq_true rfl) ?_
  have lp_1 : ∀ (N_1 : Nat) (x4_1 : Int32) (H : Heap) (locs : List Loc) (ls : Array Slot), (0 ≤ x4_1.toInt ∧ x4_1.toInt ≤ 8) → (x4_1.toInt ≤ n2.toInt) → (8 - x4_1.toInt).toNat < N_1 → va_P G vwCl (WMs cy mo h v nm f g) H → va_S A s.heap H locs → lv_has ls 5 [(4, .int x4_1), (0, .ref mo), (1, .ref (h 23)), (2, .int n), (3, .int n2)] → W p l e (headSpec (.code yX12_here cX12_here 5 (some .int) :: TBg) ({ frames := 1, cells := 0, slots := 0, locals := 64 })).room s m ([.ref mo, .ref (h 23), .int n, .int n2] : List Value).toArray below meth c H locs 0 0 (MQ below (va_Qi (fun (r : Int32) (_ : Unit) => (-1 ≤ r.toInt ∧ r.toInt ≤ 13) ∧ (r.toInt < n2.toInt ∧ (r.toInt < 0 ∨ (v 8).toInt = 2))) (fun _ _ => True) A) ([.ref mo, .ref (h 23), .int n, .int n2] : List Value).toArray s 0 0 A) (F0 m 3 ls []) := by
    intro N_1
    induction N_1 with
    | zero => intro x4_1 H locs ls qf1_0 qf1_1 hm hP hS hl; exact absurd hm (Nat.not_lt_zero _)
    | succ N_1 ih_1 =>
      intro x4_1 H locs ls qf1_0 qf1_1 hm hP hS hl
      refine lv_iload hx hb dX12_here_3 (lv_at hl 0 rfl) ?_
      refine lv_iload_n hx hb dX12_here_5 rfl (lv_at hl 4 rfl) ?_
      refine lv_icmp_ge (tgt := 40) hx hb dX12_here_6 (by decide) (fun c_2 => ?_) (fun c_2 => ?_)
      · have q_3 : n2.toInt ≤ x4_1.toInt := (ow_le _ _).mp c_2
        refine lv_iconst (v := (-1)) hx hb dX12_here_40 (by decide) ?_
        refine W.widen (k := 0) (n := 0) (Nat.le_of_ble_eq_true rfl) (Nat.le_of_ble_eq_true rfl) ?_
        exact W.iret (v := (-1)) hx hb hr (fun t ht9 hW => ⟨⟨(-1), (), rfl, ⟨(by omega), (show ((-1) : Int32).toInt < n2.toInt ∧ (((-1) : Int32).toInt < 0 ∨ (v 8).toInt = 2) from by first | omega | (subst_vars; first | rfl | omega))⟩, trivial⟩, hS.F ht9⟩) hS.2.2 dX12_here_41
      · have q_4 : x4_1.toInt < n2.toInt := by have := (not_congr (ow_le _ _)).mp c_2; omega
        refine lv_aload_n hx hb dX12_here_9 rfl (lv_at hl 1 rfl) ?_
        refine mg_8 hx hb ht hown hK hP dX12_here_10 ?_
        refine lv_iconst (v := 2) hx hb dX12_here_13 (by decide) ?_
        refine lv_icmp_ne (tgt := 34) hx hb dX12_here_14 (by decide) (fun c_5 => ?_) (fun c_5 => ?_)
        · have q_6 : ¬ (v 8).toInt = (2 : Int32).toInt := by have := (not_congr (ow_eq _ _)).mp c_5; omega
          obtain ⟨v_7, ev_7⟩ : ∃ y : Int32, y = x4_1 + 1 := ⟨_, rfl⟩
          refine lv_iinc (v := v_7) (lv' := [(4, .int v_7), (0, .ref mo), (1, .ref (h 23)), (2, .int n), (3, .int n2)]) hx hb dX12_here_34 hl (k := 0) rfl (by rw [ev_7]; rfl) (by decide) rfl (fun ls hl => ?_)
          have q_8 : v_7.toInt = x4_1.toInt + 1 := by have := ow_add ev_7 (by omega) (by omega); omega
          refine lv_goto (tgt := 3) hx hb dX12_here_37 (by decide) ?_
          refine W.widen (k := 0) (n := 0) (Nat.le_of_ble_eq_true rfl) (Nat.le_of_ble_eq_true rfl) ?_
          exact ih_1 v_7 _ _ _ (by omega) (by omega) (by omega) hP hS (lv_sub hl [0, 1, 2, 3, 4] rfl)
        · have q_9 : (v 8).toInt = (2 : Int32).toInt := (ow_eq _ _).mp c_5
          refine lv_aload_n hx hb dX12_here_17 rfl (lv_at hl 2 rfl) ?_
          refine lv_iload_n hx hb dX12_here_18 rfl (lv_at hl 3 rfl) ?_
          refine lv_iload hx hb dX12_here_19 (lv_at hl 0 rfl) ?_
          refine lv_iadd hx hb dX12_here_21 ?_
          refine lv_topi (fun v_10 ev_10 => ?_)
          have q_11 : v_10.toInt = n.toInt + x4_1.toInt := ow_add ev_10 (by omega) (by omega)
          have q_12 : vp_in v_10 16 := vp_in_iff.mpr ⟨by omega, by omega⟩
          refine ml_23 hx hb hK hP q_12 dX12_here_22 ?_
          refine lv_topl (fun v_13 ev_13 => ?_)
          refine lv_aload_n hx hb dX12_here_23 rfl (lv_at hl 1 rfl) ?_
          refine mg_10 hx hb ht hown hK hP dX12_here_24 ?_
          refine W.lcmp hx hb dX12_here_27 ?_
          refine lv_topi (fun v_14 ev_14 => ?_)
          refine lv_if_ne (tgt := 34) hx hb dX12_here_28 (by decide) (fun c_15 => ?_) (fun c_15 => ?_)
          · have q_16 : ¬ v_14.toInt = (0 : Int32).toInt := by have := (not_congr (ow_eq _ _)).mp c_15; omega
            have lc_17 : ¬ v_13 = nm := fun h9 => q_16 (by rw [ev_14, (lg_cmp_eq _ _).mpr h9])
            obtain ⟨v_18, ev_18⟩ : ∃ y : Int32, y = x4_1 + 1 := ⟨_, rfl⟩
            refine lv_iinc (v := v_18) (lv' := [(4, .int v_18), (0, .ref mo), (1, .ref (h 23)), (2, .int n), (3, .int n2)]) hx hb dX12_here_34 hl (k := 0) rfl (by rw [ev_18]; rfl) (by decide) rfl (fun ls hl => ?_)
            have q_19 : v_18.toInt = x4_1.toInt + 1 := by have := ow_add ev_18 (by omega) (by omega); omega
            refine lv_goto (tgt := 3) hx hb dX12_here_37 (by decide) ?_
            refine W.widen (k := 0) (n := 0) (Nat.le_of_ble_eq_true rfl) (Nat.le_of_ble_eq_true rfl) ?_
            exact ih_1 v_18 _ _ _ (by omega) (by omega) (by omega) hP hS (lv_sub hl [0, 1, 2, 3, 4] rfl)
          · have q_20 : v_14.toInt = (0 : Int32).toInt := (ow_eq _ _).mp c_15
            have lc_21 : v_13 = nm := (lg_cmp_eq _ _).mp (by rw [← ev_14]; exact (ow_eq _ _).mpr (by omega))
            refine lv_iload hx hb dX12_here_31 (lv_at hl 0 rfl) ?_
            refine W.widen (k := 0) (n := 0) (Nat.le_of_ble_eq_true rfl) (Nat.le_of_ble_eq_true rfl) ?_
            exact W.iret (v := x4_1) hx hb hr (fun t ht9 hW => ⟨⟨x4_1, (), rfl, ⟨(by omega), (show x4_1.toInt < n2.toInt ∧ (x4_1.toInt < 0 ∨ (v 8).toInt = 2) from by first | omega | (subst_vars; first | rfl | omega))⟩, trivial⟩, hS.F ht9⟩) hS.2.2 dX12_here_33
  exact lp_1 _ (0) _ _ _ (by omega) (by omega) (Nat.lt_succ_self _) hP hS (lv_sub hl [0, 1, 2, 3, 4] rfl)
set_option maxHeartbeats 4000000 in
set_option maxRecDepth 100000 in
theorem m_tuneHere (l : Launch) (G : va_G) (cy : Nat → ClassId) (sz : Nat) (mo : Nat) (h : Nat → Nat) (T : Int) (v : Nat → Int32) (nm : Int64) (f : Nat → Nat → Int32) (g : Nat → Nat → Int64)   (hv : MIv T v) (hf : MIf f) (hR : RI v f) (hL : WL v f)  : Met l yX12_tuneHere (.code yX12_tuneHere cX12_tuneHere 1 (some .int) :: TBg) ({ frames := 2, cells := 0, slots := 0, locals := 128 }) (va_Pc [.ref mo] (En G cy (WMs cy mo h v nm f g) sz)) (va_Qi (fun (r : Int32) (_ : Unit) => (-1 ≤ r.toInt ∧ r.toInt ≤ 13) ∧ (r.toInt < 0 ∨ (v 8).toInt = 2)) (fun _ _ => True) (va_A [] sz)) 0 0 (va_A [] sz) := by
  refine Met.ofW (cc := cX12_tuneHere) (maxL := 1) (ret := (some .int)) (by decide) rfl ?_
  intro p e s m args below meth c s₁ B hml hv9
  obtain ⟨rfl, hsz, hP, hK, hD0, hN⟩ := hv9
  have hx := B.exec
  have hb := B.bytes
  have hr := B.returns
  have hts := atoms_spec (ws := .code yX12_tuneHere cX12_tuneHere 1 (some .int) :: TBg) B.pre
  have ht : ∀ w ∈ TBg, w.before _ s = true := fun w h => hts w (List.mem_cons_of_mem _ h)
  have hown : s.vm.findClass RX12 = some m.cls := findClass_of_methodNamed B.named
  have hlocks := B.notSynchronized
  subst hsz
  generalize hAe : va_A [] s.heap.size = A at ⊢
  have hA : ∀ q : Nat, s.heap.size ≤ q → A q := fun q h => by rw [← hAe]; exact Or.inr h
  have hS : va_S A s.heap s.heap [] := va_S.rf
  have hl := lv_entry ([.ref mo]) (n := 1) (Nat.le_of_ble_eq_true rfl)
  rw [lg_entry_eq]
  generalize (lg_sl ([.ref mo]) ++ List.replicate (1 - (lg_sl ([.ref mo])).length) Slot.unset).toArray = ls at hl ⊢
  have hl : lv_has ls 1 [(0, .ref mo)] := hl
  have z0 : (14 : Int32).toInt = 14 := by decide
  refine lv_aload_n hx hb dX12_tuneHere_0 rfl (lv_at hl 0 rfl) ?_
  refine lv_aload_n hx hb dX12_tuneHere_1 rfl (lv_at hl 0 rfl) ?_
  refine mg_22 hx hb ht hown hK hP dX12_tuneHere_2 ?_
  refine lv_bipush (v := 14) hx hb dX12_tuneHere_5 (by decide) ?_
  refine lv_aload_n hx hb dX12_tuneHere_7 rfl (lv_at hl 0 rfl) ?_
  refine mg_30 hx hb ht hown hK hP dX12_tuneHere_8 ?_
  have q_1 : 0 ≤ (v 30).toInt ∧ (v 30).toInt ≤ 1 := hv 30
  refine lv_imul hx hb dX12_tuneHere_11 ?_
  refine lv_topi (fun v_2 ev_2 => ?_)
  have q_3 : v_2.toInt = 14 * (v 30).toInt := ow_mul ev_2 (by decide) (by omega) (by omega)
  refine lv_aload_n hx hb dX12_tuneHere_12 rfl (lv_at hl 0 rfl) ?_
  refine mg_11 hx hb ht hown hK hP dX12_tuneHere_13 ?_
  refine lv_aload_n hx hb dX12_tuneHere_16 rfl (lv_at hl 0 rfl) ?_
  refine mg_30 hx hb ht hown hK hP dX12_tuneHere_17 ?_
  have q_4 : vp_in (v 30) 2 := vp_in_iff.mpr ⟨by omega, by omega⟩
  refine ml_11 hx hb hK hP q_4 dX12_tuneHere_20 ?_
  refine lv_topi (fun v_5 ev_5 => ?_)
  have q_6 : 0 ≤ v_5.toInt ∧ v_5.toInt ≤ 14 := by rw [ev_5]; exact MIf.rd 11 hf q_4
  have q_7 : v_5.toInt = ((f 11) (Int32.toNatClampNeg (v 30))).toInt := (congrArg Int32.toInt ev_5).trans (congrArg (fun z : Nat → Int32 => (z (Int32.toNatClampNeg (v 30))).toInt) (show f 11 = (f 11) from rfl))
  have hFc := fr_new hS hA
  refine va_calli (va_runV (As := [.ref (h 22), .int v_2, .int v_5]) (rest := []) ⟨hx, hb, hml, hown, ht⟩ (m_hereT l G cy _ mo h T v nm f g v_2 v_5  hv hf hR hL (by omega) (by omega) (show v_2.toInt + v_5.toInt ≤ 28 from by omega)) (cwV 3 ht (gv k_236 k_237 k_238 k_61 k_235) rfl rfl rfl (by decide +kernel) ⟨Nat.le_of_ble_eq_true rfl, Nat.le_of_ble_eq_true rfl⟩) ⟨En.blind, va_recv hK hP (ci := 12) (q0 := 0) rfl rfl, fun U hU hW => ⟨rfl, En.of hU hW hP hK hD0 hN⟩⟩ rfl rfl hl.1 rfl (lv_room (Nat.le_of_ble_eq_true rfl)) dX12_tuneHere_21 ⟨Nat.le_of_ble_eq_true rfl, Nat.le_of_ble_eq_true rfl⟩) hS (fun q _ h => hFc q h) hFc (fun r_u_8 u_8 t9 H locs ht9 hvm hw hB hz1 hk1 hS => ?_)
  have hP := fr_keep hP hk1
  have wu_8 := hw
  clear hFc hk1 hz1 hB hw
  refine W.widen (k := 0) (n := 0) (Nat.le_of_ble_eq_true rfl) (Nat.le_of_ble_eq_true rfl) ?_
  exact W.iret (v := r_u_8) hx hb hr (fun t ht9 hW => ⟨⟨r_u_8, (), rfl, ⟨(by omega), (show r_u_8.toInt < 0 ∨ (v 8).toInt = 2 from by first | omega | (subst_vars; first | rfl | omega))⟩, trivial⟩, hS.F ht9⟩) hS.2.2 dX12_tuneHere_24
set_option maxHeartbeats 4000000 in
set_option maxRecDepth 100000 in
theorem m_fresh (l : Launch) (G : va_G) (cy : Nat → ClassId) (sz : Nat) (mo : Nat) (h : Nat → Nat) (T : Int) (v : Nat → Int32) (nm : Int64) (f : Nat → Nat → Int32) (g : Nat → Nat → Int64) (n : Int32)  (hv : MIv T v) (hf : MIf f) (hR : RI v f) (hL : WL v f) (h_n : 0 ≤ n.toInt ∧ n.toInt ≤ 1) (he : (v 7).toInt ≤ (v 3).toInt) : Met l yX12_fresh (.code yX12_fresh cX12_fresh 4 (some .long) :: TBg) ({ frames := 3, cells := 0, slots := 0, locals := 192 }) (va_Pc [.ref mo, .int n] (En G cy (WMs cy mo h v nm f g) sz)) (va_Ql (fun (r : Int64) (u : (Nat → Int32) × Int64) => MIv T u.1 ∧ FV [4, 5, 6, 7, 8, 9] v u.1 ∧ (((u.1 7).toInt ≤ (v 3).toInt ∧ ((u.1 4).toInt ≠ 0 ∨ (v 4).toInt = 0))) ∧ (0 ≤ mz (v 3).toInt (u.1 7).toInt (u.1 8).toInt ∧ mz (v 3).toInt (u.1 7).toInt (u.1 8).toInt ≤ mz (v 3).toInt (v 7).toInt (v 8).toInt)) (fun u t => Ex G (va_A (WMs cy mo h v nm f g) sz) (WMs cy mo h u.1 u.2 f g) t) (va_A (WMs cy mo h v nm f g) sz)) 0 0 (va_A (WMs cy mo h v nm f g) sz) := by
  refine Met.ofW (cc := cX12_fresh) (maxL := 4) (ret := (some .long)) (by decide) rfl ?_
  intro p e s m args below meth c s₁ B hml hv9
  obtain ⟨rfl, hsz, hP, hK, hD0, hN⟩ := hv9
  have hx := B.exec
  have hb := B.bytes
  have hr := B.returns
  have hts := atoms_spec (ws := .code yX12_fresh cX12_fresh 4 (some .long) :: TBg) B.pre
  have ht : ∀ w ∈ TBg, w.before _ s = true := fun w h => hts w (List.mem_cons_of_mem _ h)
  have hown : s.vm.findClass RX12 = some m.cls := findClass_of_methodNamed B.named
  have hlocks := B.notSynchronized
  subst hsz
  have hD := hD0.self (sz := s.heap.size)
  generalize hAe : va_A (WMs cy mo h v nm f g) s.heap.size = A at hD ⊢
  have hA : ∀ q : Nat, s.heap.size ≤ q → A q := fun q h => by rw [← hAe]; exact Or.inr h
  have hS : va_S A s.heap s.heap [] := va_S.rf
  have hl := lv_entry ([.ref mo, .int n]) (n := 4) (Nat.le_of_ble_eq_true rfl)
  rw [lg_entry_eq]
  generalize (lg_sl ([.ref mo, .int n]) ++ List.replicate (4 - (lg_sl ([.ref mo, .int n])).length) Slot.unset).toArray = ls at hl ⊢
  have hl : lv_has ls 4 [(0, .ref mo), (1, .int n)] := hl
  have z0 : (0 : Int32).toInt = 0 := by decide
  have z1 : (2 : Int32).toInt = 2 := by decide
  have z2 : (3 : Int32).toInt = 3 := by decide
  have hf_0 := hf
  have hV_0 : FV [4, 5, 6, 7, 8, 9] v v := FV.rf
  have hmz0 : 0 ≤ mz (v 3).toInt (v 7).toInt (v 8).toInt := mz_nn he
  refine lv_aload_n hx hb dX12_fresh_0 rfl (lv_at hl 0 rfl) ?_
  have hFc := fr_new hS hA
  refine va_calli (va_runV (As := []) (rest := []) ⟨hx, hb, hml, hown, ht⟩ (m_isGood l G cy _ mo h T v nm f g   hv hf hR hL) (cwV 0 ht (gv k_224 k_225 k_226 k_61 k_223) rfl rfl rfl (by decide +kernel) ⟨Nat.le_of_ble_eq_true rfl, Nat.le_of_ble_eq_true rfl⟩) ⟨En.blind, va_recv hK hP (ci := 12) (q0 := 0) rfl rfl, fun U hU hW => ⟨rfl, En.of hU hW hP hK hD hN⟩⟩ rfl rfl hl.1 rfl (lv_room (Nat.le_of_ble_eq_true rfl)) dX12_fresh_1 ⟨Nat.le_of_ble_eq_true rfl, Nat.le_of_ble_eq_true rfl⟩) hS (fun q _ h => hFc q h) hFc (fun r_u_1 u_1 t9 H locs ht9 hvm hw hB hz1 hk1 hS => ?_)
  have hP := fr_keep hP hk1
  have wu_1 := hw
  clear hFc hk1 hz1 hB hw
  refine lv_if_ne (tgt := 9) hx hb dX12_fresh_4 (by decide) (fun c_2 => ?_) (fun c_2 => ?_)
  · have q_3 : ¬ r_u_1.toInt = (0 : Int32).toInt := by have := (not_congr (ow_eq _ _)).mp c_2; omega
    refine lv_aload_n hx hb dX12_fresh_9 rfl (lv_at hl 0 rfl) ?_
    refine mg_8 hx hb ht hown hK hP dX12_fresh_10 ?_
    refine lv_iconst (v := 2) hx hb dX12_fresh_13 (by decide) ?_
    refine lv_icmp_eq (tgt := 24) hx hb dX12_fresh_14 (by decide) (fun c_4 => ?_) (fun c_4 => ?_)
    · have q_5 : (v 8).toInt = (2 : Int32).toInt := (ow_eq _ _).mp c_4
      refine lv_iload_n hx hb dX12_fresh_24 rfl (lv_at hl 1 rfl) ?_
      refine lv_if_eq (tgt := 37) hx hb dX12_fresh_25 (by decide) (fun c_6 => ?_) (fun c_6 => ?_)
      · have q_7 : n.toInt = (0 : Int32).toInt := (ow_eq _ _).mp c_6
        refine lv_aload_n hx hb dX12_fresh_37 rfl (lv_at hl 0 rfl) ?_
        refine mg_10 hx hb ht hown hK hP dX12_fresh_38 ?_
        refine lv_lstore_n (lv' := [(2, .long nm), (0, .ref mo), (1, .int n)]) hx hb dX12_fresh_41 rfl hl (by decide) rfl (fun ls hl => ?_)
        refine lv_aload_n hx hb dX12_fresh_42 rfl (lv_at hl 1 rfl) ?_
        have hFc := fr_new hS hA
        refine va_calli (va_runV (As := []) (rest := []) ⟨hx, hb, hml, hown, ht⟩ (m_isGood l G cy _ mo h T v nm f g   hv hf hR hL) (cwV 0 ht (gv k_224 k_225 k_226 k_61 k_223) rfl rfl rfl (by decide +kernel) ⟨Nat.le_of_ble_eq_true rfl, Nat.le_of_ble_eq_true rfl⟩) ⟨En.blind, va_recv hK hP (ci := 12) (q0 := 0) rfl rfl, fun U hU hW => ⟨rfl, En.of hU hW hP hK hD hN⟩⟩ rfl rfl hl.1 rfl (lv_room (Nat.le_of_ble_eq_true rfl)) dX12_fresh_43 ⟨Nat.le_of_ble_eq_true rfl, Nat.le_of_ble_eq_true rfl⟩) hS (fun q _ h => hFc q h) hFc (fun r_u_8 u_8 t9 H locs ht9 hvm hw hB hz1 hk1 hS => ?_)
        have hP := fr_keep hP hk1
        have wu_8 := hw
        clear hFc hk1 hz1 hB hw
        refine lv_if_eq (tgt := 53) hx hb dX12_fresh_46 (by decide) (fun c_9 => ?_) (fun c_9 => ?_)
        · have q_10 : r_u_8.toInt = (0 : Int32).toInt := (ow_eq _ _).mp c_9
          refine lv_lload_n hx hb dX12_fresh_53 rfl (lv_at hl 0 rfl) ?_
          refine W.widen (k := 0) (n := 0) (Nat.le_of_ble_eq_true rfl) (Nat.le_of_ble_eq_true rfl) ?_
          exact W.lret hx hb hr (fun t ht9 hW => ⟨⟨nm, (v, nm), rfl, ⟨hv, hV_0, (show (v 7).toInt ≤ (v 3).toInt ∧ ((v 4).toInt ≠ 0 ∨ (v 4).toInt = 0) from by first | omega | (subst_vars; first | rfl | omega)), (show 0 ≤ mz (v 3).toInt (v 7).toInt (v 8).toInt ∧ mz (v 3).toInt (v 7).toInt (v 8).toInt ≤ mz (v 3).toInt (v 7).toInt (v 8).toInt from by omega)⟩, ⟨by rw [ht9]; exact hP, hD⟩⟩, hS.F ht9⟩) hS.2.2 dX12_fresh_54
        · have q_11 : ¬ r_u_8.toInt = (0 : Int32).toInt := by have := (not_congr (ow_eq _ _)).mp c_9; omega
          refine lv_aload_n hx hb dX12_fresh_49 rfl (lv_at hl 1 rfl) ?_
          have hFc := fr_free hD hS hA
          refine va_callv (va_runV (As := []) (rest := []) ⟨hx, hb, hml, hown, ht⟩ (m_goOn l G cy _ mo h T v nm f g   hv hf hR hL (show (v 7).toInt ≤ (v 3).toInt from by omega)) (cwV 0 ht (gv k_232 k_233 k_234 k_61 k_231) rfl rfl rfl (by decide +kernel) ⟨Nat.le_of_ble_eq_true rfl, Nat.le_of_ble_eq_true rfl⟩) ⟨En.blind, va_recv hK hP (ci := 12) (q0 := 0) rfl rfl, fun U hU hW => ⟨rfl, En.of hU hW hP hK hD hN⟩⟩ rfl rfl hl.1 rfl (lv_room (Nat.le_of_ble_eq_true rfl)) dX12_fresh_50 ⟨Nat.le_of_ble_eq_true rfl, Nat.le_of_ble_eq_true rfl⟩) hS (fun q _ h => hFc q h) hFc (fun u_12 t9 H locs ht9 hvm hw hB hz1 hk1 hS => ?_)
          obtain ⟨v12, nm12⟩ := u_12
          obtain ⟨hP1, hD1⟩ := hB
          rw [ht9] at hP1
          obtain ⟨hv, xu_12V, wu_12, xu_12_M⟩ := hw
          dsimp only at hv xu_12V wu_12 xu_12_M
          have hP : va_P G vwCl (WMs cy mo h v12 nm12 f g) H := hP1
          have hD : va_D A (WMs cy mo h v12 nm12 f g) := hD1.weaken (fun _ _ _ h => hFc _ h)
          have hR : RI v12 f := RI.fv hR xu_12V (by decide)
          have hL : WL v12 f := WL.fv hL xu_12V (by decide) (by decide)
          have hV_0 := FV.tr hV_0 xu_12V (by decide)
          clear hFc hk1 hz1 hP1 hD1
          have wu_12 : ((v12 7).toInt ≤ (v 3).toInt ∧ (((v12 8).toInt = 0 ∧ (v12 7).toInt = (v 3).toInt) ∨ ((v12 8).toInt ≠ 0 ∧ (v 7).toInt < (v12 7).toInt))) := wu_12
          have xu_12_M : 0 ≤ mz (v 3).toInt (v12 7).toInt (v12 8).toInt ∧ mz (v 3).toInt (v12 7).toInt (v12 8).toInt ≤ mz (v 3).toInt (v 7).toInt (v 8).toInt ∧ ((v 8).toInt = 0 ∨ mz (v 3).toInt (v12 7).toInt (v12 8).toInt < mz (v 3).toInt (v 7).toInt (v 8).toInt) := by
            have h9 : 0 ≤ mz (v 3).toInt (v12 7).toInt (v12 8).toInt ∧ mz (v 3).toInt (v12 7).toInt (v12 8).toInt ≤ mz (v 3).toInt (v 7).toInt (v 8).toInt ∧ ((v 8).toInt = 0 ∨ mz (v 3).toInt (v12 7).toInt (v12 8).toInt < mz (v 3).toInt (v 7).toInt (v 8).toInt) := xu_12_M
            exact h9
          refine lv_lload_n hx hb dX12_fresh_53 rfl (lv_at hl 0 rfl) ?_
          refine W.widen (k := 0) (n := 0) (Nat.le_of_ble_eq_true rfl) (Nat.le_of_ble_eq_true rfl) ?_
          exact W.lret hx hb hr (fun t ht9 hW => ⟨⟨nm, (v12, nm12), rfl, ⟨hv, hV_0, (show (v12 7).toInt ≤ (v 3).toInt ∧ ((v12 4).toInt ≠ 0 ∨ (v 4).toInt = 0) from by rw [(show v12 4 = (v 4) from (xu_12V 4 (by decide)))]; first | omega | (subst_vars; first | rfl | omega)), (show 0 ≤ mz (v 3).toInt (v12 7).toInt (v12 8).toInt ∧ mz (v 3).toInt (v12 7).toInt (v12 8).toInt ≤ mz (v 3).toInt (v 7).toInt (v 8).toInt from by omega)⟩, ⟨by rw [ht9]; exact hP, hD⟩⟩, hS.F ht9⟩) hS.2.2 dX12_fresh_54
      · have q_13 : ¬ n.toInt = (0 : Int32).toInt := by have := (not_congr (ow_eq _ _)).mp c_6; omega
        refine lv_aload_n hx hb dX12_fresh_28 rfl (lv_at hl 0 rfl) ?_
        refine lv_iconst (v := 3) hx hb dX12_fresh_29 (by decide) ?_
        refine lv_aload_n hx hb dX12_fresh_30 rfl (lv_at hl 0 rfl) ?_
        refine mg_6 hx hb ht hown hK hP dX12_fresh_31 ?_
        have q_14 : 0 ≤ (v 6).toInt ∧ (v 6).toInt ≤ 1700 := hv 6
        have hFc := fr_free hD hS hA
        refine va_callv (va_runV (As := [.int 3, .int (v 6)]) (rest := []) ⟨hx, hb, hml, hown, ht⟩ (m_fails l G cy _ mo h T v nm f g (3) (v 6)  hv hf hR hL (by omega)) (cwV 2 ht (gv k_211 k_212 k_213 k_61 k_210) rfl rfl rfl (by decide +kernel) ⟨Nat.le_of_ble_eq_true rfl, Nat.le_of_ble_eq_true rfl⟩) ⟨En.blind, va_recv hK hP (ci := 12) (q0 := 0) rfl rfl, fun U hU hW => ⟨rfl, En.of hU hW hP hK hD hN⟩⟩ rfl rfl hl.1 rfl (lv_room (Nat.le_of_ble_eq_true rfl)) dX12_fresh_34 ⟨Nat.le_of_ble_eq_true rfl, Nat.le_of_ble_eq_true rfl⟩) hS (fun q _ h => hFc q h) hFc (fun u_15 t9 H locs ht9 hvm hw hB hz1 hk1 hS => ?_)
        obtain ⟨v15, nm15⟩ := u_15
        obtain ⟨hP1, hD1⟩ := hB
        rw [ht9] at hP1
        obtain ⟨hv, xu_15V, wu_15⟩ := hw
        dsimp only at hv xu_15V wu_15
        have hP : va_P G vwCl (WMs cy mo h v15 nm15 f g) H := hP1
        have hD : va_D A (WMs cy mo h v15 nm15 f g) := hD1.weaken (fun _ _ _ h => hFc _ h)
        have hR : RI v15 f := RI.fv hR xu_15V (by decide)
        have hL : WL v15 f := WL.fv hL xu_15V (by decide) (by decide)
        have hV_0 := FV.tr hV_0 xu_15V (by decide)
        clear hFc hk1 hz1 hP1 hD1
        have wu_15 : (1 ≤ (v15 4).toInt) := wu_15
        refine lv_aload_n hx hb dX12_fresh_37 rfl (lv_at hl 0 rfl) ?_
        refine mg_10 hx hb ht hown hK hP dX12_fresh_38 ?_
        refine lv_lstore_n (lv' := [(2, .long nm15), (0, .ref mo), (1, .int n)]) hx hb dX12_fresh_41 rfl hl (by decide) rfl (fun ls hl => ?_)
        refine lv_aload_n hx hb dX12_fresh_42 rfl (lv_at hl 1 rfl) ?_
        have hFc := fr_new hS hA
        refine va_calli (va_runV (As := []) (rest := []) ⟨hx, hb, hml, hown, ht⟩ (m_isGood l G cy _ mo h T v15 nm15 f g   hv hf hR hL) (cwV 0 ht (gv k_224 k_225 k_226 k_61 k_223) rfl rfl rfl (by decide +kernel) ⟨Nat.le_of_ble_eq_true rfl, Nat.le_of_ble_eq_true rfl⟩) ⟨En.blind, va_recv hK hP (ci := 12) (q0 := 0) rfl rfl, fun U hU hW => ⟨rfl, En.of hU hW hP hK hD hN⟩⟩ rfl rfl hl.1 rfl (lv_room (Nat.le_of_ble_eq_true rfl)) dX12_fresh_43 ⟨Nat.le_of_ble_eq_true rfl, Nat.le_of_ble_eq_true rfl⟩) hS (fun q _ h => hFc q h) hFc (fun r_u_16 u_16 t9 H locs ht9 hvm hw hB hz1 hk1 hS => ?_)
        have hP := fr_keep hP hk1
        have wu_16 := hw
        clear hFc hk1 hz1 hB hw
        have wu_16 : (r_u_16.toInt = 0 ∨ r_u_16.toInt = 1) ∧ ((r_u_16.toInt = 1 ∧ (v15 4).toInt = 0) ∨ (r_u_16.toInt = 0 ∧ (v15 4).toInt ≠ 0)) := wu_16
        refine lv_if_eq (tgt := 53) hx hb dX12_fresh_46 (by decide) (fun c_17 => ?_) (fun c_17 => ?_)
        · have q_18 : r_u_16.toInt = (0 : Int32).toInt := (ow_eq _ _).mp c_17
          refine lv_lload_n hx hb dX12_fresh_53 rfl (lv_at hl 0 rfl) ?_
          refine W.widen (k := 0) (n := 0) (Nat.le_of_ble_eq_true rfl) (Nat.le_of_ble_eq_true rfl) ?_
          exact W.lret hx hb hr (fun t ht9 hW => ⟨⟨nm15, (v15, nm15), rfl, ⟨hv, hV_0, (show (v15 7).toInt ≤ (v 3).toInt ∧ ((v15 4).toInt ≠ 0 ∨ (v 4).toInt = 0) from by rw [(show v15 7 = (v 7) from (xu_15V 7 (by decide)))]; first | omega | (subst_vars; first | rfl | omega)), (show 0 ≤ mz (v 3).toInt (v15 7).toInt (v15 8).toInt ∧ mz (v 3).toInt (v15 7).toInt (v15 8).toInt ≤ mz (v 3).toInt (v 7).toInt (v 8).toInt from by rw [(show v15 7 = (v 7) from (xu_15V 7 (by decide))), (show v15 8 = (v 8) from (xu_15V 8 (by decide)))]; omega)⟩, ⟨by rw [ht9]; exact hP, hD⟩⟩, hS.F ht9⟩) hS.2.2 dX12_fresh_54
        · have q_19 : ¬ r_u_16.toInt = (0 : Int32).toInt := by have := (not_congr (ow_eq _ _)).mp c_17; omega
          refine lv_aload_n hx hb dX12_fresh_49 rfl (lv_at hl 1 rfl) ?_
          have hFc := fr_free hD hS hA
          refine va_callv (va_runV (As := []) (rest := []) ⟨hx, hb, hml, hown, ht⟩ (m_goOn l G cy _ mo h T v15 nm15 f g   hv hf hR hL (show (v15 7).toInt ≤ (v15 3).toInt from by rw [(show v15 7 = (v 7) from (xu_15V 7 (by decide))), (show v15 3 = (v 3) from (xu_15V 3 (by decide)))]; omega)) (cwV 0 ht (gv k_232 k_233 k_234 k_61 k_231) rfl rfl rfl (by decide +kernel) ⟨Nat.le_of_ble_eq_true rfl, Nat.le_of_ble_eq_true rfl⟩) ⟨En.blind, va_recv hK hP (ci := 12) (q0 := 0) rfl rfl, fun U hU hW => ⟨rfl, En.of hU hW hP hK hD hN⟩⟩ rfl rfl hl.1 rfl (lv_room (Nat.le_of_ble_eq_true rfl)) dX12_fresh_50 ⟨Nat.le_of_ble_eq_true rfl, Nat.le_of_ble_eq_true rfl⟩) hS (fun q _ h => hFc q h) hFc (fun u_20 t9 H locs ht9 hvm hw hB hz1 hk1 hS => ?_)
          obtain ⟨v20, nm20⟩ := u_20
          obtain ⟨hP1, hD1⟩ := hB
          rw [ht9] at hP1
          obtain ⟨hv, xu_20V, wu_20, xu_20_M⟩ := hw
          dsimp only at hv xu_20V wu_20 xu_20_M
          have hP : va_P G vwCl (WMs cy mo h v20 nm20 f g) H := hP1
          have hD : va_D A (WMs cy mo h v20 nm20 f g) := hD1.weaken (fun _ _ _ h => hFc _ h)
          have hR : RI v20 f := RI.fv hR xu_20V (by decide)
          have hL : WL v20 f := WL.fv hL xu_20V (by decide) (by decide)
          have hV_0 := FV.tr hV_0 xu_20V (by decide)
          clear hFc hk1 hz1 hP1 hD1
          have wu_20 : ((v20 7).toInt ≤ (v 3).toInt ∧ (((v20 8).toInt = 0 ∧ (v20 7).toInt = (v 3).toInt) ∨ ((v20 8).toInt ≠ 0 ∧ (v 7).toInt < (v20 7).toInt))) := by
            have h9 : ((v20 7).toInt ≤ (v15 3).toInt ∧ (((v20 8).toInt = 0 ∧ (v20 7).toInt = (v15 3).toInt) ∨ ((v20 8).toInt ≠ 0 ∧ (v15 7).toInt < (v20 7).toInt))) := wu_20
            rw [(show v15 3 = (v 3) from (xu_15V 3 (by decide))), (show v15 7 = (v 7) from (xu_15V 7 (by decide)))] at h9
            exact h9
          have xu_20_M : 0 ≤ mz (v 3).toInt (v20 7).toInt (v20 8).toInt ∧ mz (v 3).toInt (v20 7).toInt (v20 8).toInt ≤ mz (v 3).toInt (v 7).toInt (v 8).toInt ∧ ((v 8).toInt = 0 ∨ mz (v 3).toInt (v20 7).toInt (v20 8).toInt < mz (v 3).toInt (v 7).toInt (v 8).toInt) := by
            have h9 : 0 ≤ mz (v15 3).toInt (v20 7).toInt (v20 8).toInt ∧ mz (v15 3).toInt (v20 7).toInt (v20 8).toInt ≤ mz (v15 3).toInt (v15 7).toInt (v15 8).toInt ∧ ((v15 8).toInt = 0 ∨ mz (v15 3).toInt (v20 7).toInt (v20 8).toInt < mz (v15 3).toInt (v15 7).toInt (v15 8).toInt) := xu_20_M
            rw [(show v15 3 = (v 3) from (xu_15V 3 (by decide))), (show v15 7 = (v 7) from (xu_15V 7 (by decide))), (show v15 8 = (v 8) from (xu_15V 8 (by decide)))] at h9
            exact h9
          refine lv_lload_n hx hb dX12_fresh_53 rfl (lv_at hl 0 rfl) ?_
          refine W.widen (k := 0) (n := 0) (Nat.le_of_ble_eq_true rfl) (Nat.le_of_ble_eq_true rfl) ?_
          exact W.lret hx hb hr (fun t ht9 hW => ⟨⟨nm15, (v20, nm20), rfl, ⟨hv, hV_0, (show (v20 7).toInt ≤ (v 3).toInt ∧ ((v20 4).toInt ≠ 0 ∨ (v 4).toInt = 0) from by rw [(show v20 4 = (v15 4) from (xu_20V 4 (by decide)))]; first | omega | (subst_vars; first | rfl | omega)), (show 0 ≤ mz (v 3).toInt (v20 7).toInt (v20 8).toInt ∧ mz (v 3).toInt (v20 7).toInt (v20 8).toInt ≤ mz (v 3).toInt (v 7).toInt (v 8).toInt from by omega)⟩, ⟨by rw [ht9]; exact hP, hD⟩⟩, hS.F ht9⟩) hS.2.2 dX12_fresh_54
    · have q_21 : ¬ (v 8).toInt = (2 : Int32).toInt := by have := (not_congr (ow_eq _ _)).mp c_4; omega
      refine lv_aload_n hx hb dX12_fresh_17 rfl (lv_at hl 0 rfl) ?_
      have hFc := fr_free hD hS hA
      refine va_callv (va_runV (As := []) (rest := []) ⟨hx, hb, hml, hown, ht⟩ (m_misplaced l G cy _ mo h T v nm f g   hv hf hR hL) (cwV 0 ht (gv k_228 k_229 k_230 k_61 k_227) rfl rfl rfl (by decide +kernel) ⟨Nat.le_of_ble_eq_true rfl, Nat.le_of_ble_eq_true rfl⟩) ⟨En.blind, va_recv hK hP (ci := 12) (q0 := 0) rfl rfl, fun U hU hW => ⟨rfl, En.of hU hW hP hK hD hN⟩⟩ rfl rfl hl.1 rfl (lv_room (Nat.le_of_ble_eq_true rfl)) dX12_fresh_18 ⟨Nat.le_of_ble_eq_true rfl, Nat.le_of_ble_eq_true rfl⟩) hS (fun q _ h => hFc q h) hFc (fun u_22 t9 H locs ht9 hvm hw hB hz1 hk1 hS => ?_)
      obtain ⟨v22, nm22⟩ := u_22
      obtain ⟨hP1, hD1⟩ := hB
      rw [ht9] at hP1
      obtain ⟨hv, xu_22V, wu_22⟩ := hw
      dsimp only at hv xu_22V wu_22
      have hP : va_P G vwCl (WMs cy mo h v22 nm22 f g) H := hP1
      have hD : va_D A (WMs cy mo h v22 nm22 f g) := hD1.weaken (fun _ _ _ h => hFc _ h)
      have hR : RI v22 f := RI.fv hR xu_22V (by decide)
      have hL : WL v22 f := WL.fv hL xu_22V (by decide) (by decide)
      have hV_0 := FV.tr hV_0 xu_22V (by decide)
      clear hFc hk1 hz1 hP1 hD1
      have wu_22 : (1 ≤ (v22 4).toInt) := wu_22
      refine lv_goto (tgt := 37) hx hb dX12_fresh_21 (by decide) ?_
      refine lv_aload_n hx hb dX12_fresh_37 rfl (lv_at hl 0 rfl) ?_
      refine mg_10 hx hb ht hown hK hP dX12_fresh_38 ?_
      refine lv_lstore_n (lv' := [(2, .long nm22), (0, .ref mo), (1, .int n)]) hx hb dX12_fresh_41 rfl hl (by decide) rfl (fun ls hl => ?_)
      refine lv_aload_n hx hb dX12_fresh_42 rfl (lv_at hl 1 rfl) ?_
      have hFc := fr_new hS hA
      refine va_calli (va_runV (As := []) (rest := []) ⟨hx, hb, hml, hown, ht⟩ (m_isGood l G cy _ mo h T v22 nm22 f g   hv hf hR hL) (cwV 0 ht (gv k_224 k_225 k_226 k_61 k_223) rfl rfl rfl (by decide +kernel) ⟨Nat.le_of_ble_eq_true rfl, Nat.le_of_ble_eq_true rfl⟩) ⟨En.blind, va_recv hK hP (ci := 12) (q0 := 0) rfl rfl, fun U hU hW => ⟨rfl, En.of hU hW hP hK hD hN⟩⟩ rfl rfl hl.1 rfl (lv_room (Nat.le_of_ble_eq_true rfl)) dX12_fresh_43 ⟨Nat.le_of_ble_eq_true rfl, Nat.le_of_ble_eq_true rfl⟩) hS (fun q _ h => hFc q h) hFc (fun r_u_23 u_23 t9 H locs ht9 hvm hw hB hz1 hk1 hS => ?_)
      have hP := fr_keep hP hk1
      have wu_23 := hw
      clear hFc hk1 hz1 hB hw
      have wu_23 : (r_u_23.toInt = 0 ∨ r_u_23.toInt = 1) ∧ ((r_u_23.toInt = 1 ∧ (v22 4).toInt = 0) ∨ (r_u_23.toInt = 0 ∧ (v22 4).toInt ≠ 0)) := wu_23
      refine lv_if_eq (tgt := 53) hx hb dX12_fresh_46 (by decide) (fun c_24 => ?_) (fun c_24 => ?_)
      · have q_25 : r_u_23.toInt = (0 : Int32).toInt := (ow_eq _ _).mp c_24
        refine lv_lload_n hx hb dX12_fresh_53 rfl (lv_at hl 0 rfl) ?_
        refine W.widen (k := 0) (n := 0) (Nat.le_of_ble_eq_true rfl) (Nat.le_of_ble_eq_true rfl) ?_
        exact W.lret hx hb hr (fun t ht9 hW => ⟨⟨nm22, (v22, nm22), rfl, ⟨hv, hV_0, (show (v22 7).toInt ≤ (v 3).toInt ∧ ((v22 4).toInt ≠ 0 ∨ (v 4).toInt = 0) from by rw [(show v22 7 = (v 7) from (xu_22V 7 (by decide)))]; first | omega | (subst_vars; first | rfl | omega)), (show 0 ≤ mz (v 3).toInt (v22 7).toInt (v22 8).toInt ∧ mz (v 3).toInt (v22 7).toInt (v22 8).toInt ≤ mz (v 3).toInt (v 7).toInt (v 8).toInt from by rw [(show v22 7 = (v 7) from (xu_22V 7 (by decide))), (show v22 8 = (v 8) from (xu_22V 8 (by decide)))]; omega)⟩, ⟨by rw [ht9]; exact hP, hD⟩⟩, hS.F ht9⟩) hS.2.2 dX12_fresh_54
      · have q_26 : ¬ r_u_23.toInt = (0 : Int32).toInt := by have := (not_congr (ow_eq _ _)).mp c_24; omega
        refine lv_aload_n hx hb dX12_fresh_49 rfl (lv_at hl 1 rfl) ?_
        have hFc := fr_free hD hS hA
        refine va_callv (va_runV (As := []) (rest := []) ⟨hx, hb, hml, hown, ht⟩ (m_goOn l G cy _ mo h T v22 nm22 f g   hv hf hR hL (show (v22 7).toInt ≤ (v22 3).toInt from by rw [(show v22 7 = (v 7) from (xu_22V 7 (by decide))), (show v22 3 = (v 3) from (xu_22V 3 (by decide)))]; omega)) (cwV 0 ht (gv k_232 k_233 k_234 k_61 k_231) rfl rfl rfl (by decide +kernel) ⟨Nat.le_of_ble_eq_true rfl, Nat.le_of_ble_eq_true rfl⟩) ⟨En.blind, va_recv hK hP (ci := 12) (q0 := 0) rfl rfl, fun U hU hW => ⟨rfl, En.of hU hW hP hK hD hN⟩⟩ rfl rfl hl.1 rfl (lv_room (Nat.le_of_ble_eq_true rfl)) dX12_fresh_50 ⟨Nat.le_of_ble_eq_true rfl, Nat.le_of_ble_eq_true rfl⟩) hS (fun q _ h => hFc q h) hFc (fun u_27 t9 H locs ht9 hvm hw hB hz1 hk1 hS => ?_)
        obtain ⟨v27, nm27⟩ := u_27
        obtain ⟨hP1, hD1⟩ := hB
        rw [ht9] at hP1
        obtain ⟨hv, xu_27V, wu_27, xu_27_M⟩ := hw
        dsimp only at hv xu_27V wu_27 xu_27_M
        have hP : va_P G vwCl (WMs cy mo h v27 nm27 f g) H := hP1
        have hD : va_D A (WMs cy mo h v27 nm27 f g) := hD1.weaken (fun _ _ _ h => hFc _ h)
        have hR : RI v27 f := RI.fv hR xu_27V (by decide)
        have hL : WL v27 f := WL.fv hL xu_27V (by decide) (by decide)
        have hV_0 := FV.tr hV_0 xu_27V (by decide)
        clear hFc hk1 hz1 hP1 hD1
        have wu_27 : ((v27 7).toInt ≤ (v 3).toInt ∧ (((v27 8).toInt = 0 ∧ (v27 7).toInt = (v 3).toInt) ∨ ((v27 8).toInt ≠ 0 ∧ (v 7).toInt < (v27 7).toInt))) := by
          have h9 : ((v27 7).toInt ≤ (v22 3).toInt ∧ (((v27 8).toInt = 0 ∧ (v27 7).toInt = (v22 3).toInt) ∨ ((v27 8).toInt ≠ 0 ∧ (v22 7).toInt < (v27 7).toInt))) := wu_27
          rw [(show v22 3 = (v 3) from (xu_22V 3 (by decide))), (show v22 7 = (v 7) from (xu_22V 7 (by decide)))] at h9
          exact h9
        have xu_27_M : 0 ≤ mz (v 3).toInt (v27 7).toInt (v27 8).toInt ∧ mz (v 3).toInt (v27 7).toInt (v27 8).toInt ≤ mz (v 3).toInt (v 7).toInt (v 8).toInt ∧ ((v 8).toInt = 0 ∨ mz (v 3).toInt (v27 7).toInt (v27 8).toInt < mz (v 3).toInt (v 7).toInt (v 8).toInt) := by
          have h9 : 0 ≤ mz (v22 3).toInt (v27 7).toInt (v27 8).toInt ∧ mz (v22 3).toInt (v27 7).toInt (v27 8).toInt ≤ mz (v22 3).toInt (v22 7).toInt (v22 8).toInt ∧ ((v22 8).toInt = 0 ∨ mz (v22 3).toInt (v27 7).toInt (v27 8).toInt < mz (v22 3).toInt (v22 7).toInt (v22 8).toInt) := xu_27_M
          rw [(show v22 3 = (v 3) from (xu_22V 3 (by decide))), (show v22 7 = (v 7) from (xu_22V 7 (by decide))), (show v22 8 = (v 8) from (xu_22V 8 (by decide)))] at h9
          exact h9
        refine lv_lload_n hx hb dX12_fresh_53 rfl (lv_at hl 0 rfl) ?_
        refine W.widen (k := 0) (n := 0) (Nat.le_of_ble_eq_true rfl) (Nat.le_of_ble_eq_true rfl) ?_
        exact W.lret hx hb hr (fun t ht9 hW => ⟨⟨nm22, (v27, nm27), rfl, ⟨hv, hV_0, (show (v27 7).toInt ≤ (v 3).toInt ∧ ((v27 4).toInt ≠ 0 ∨ (v 4).toInt = 0) from by rw [(show v27 4 = (v22 4) from (xu_27V 4 (by decide)))]; first | omega | (subst_vars; first | rfl | omega)), (show 0 ≤ mz (v 3).toInt (v27 7).toInt (v27 8).toInt ∧ mz (v 3).toInt (v27 7).toInt (v27 8).toInt ≤ mz (v 3).toInt (v 7).toInt (v 8).toInt from by omega)⟩, ⟨by rw [ht9]; exact hP, hD⟩⟩, hS.F ht9⟩) hS.2.2 dX12_fresh_54
  · have q_28 : r_u_1.toInt = (0 : Int32).toInt := (ow_eq _ _).mp c_2
    refine lv_lconst (v := 0) hx hb dX12_fresh_7 (by decide) ?_
    refine W.widen (k := 0) (n := 0) (Nat.le_of_ble_eq_true rfl) (Nat.le_of_ble_eq_true rfl) ?_
    exact W.lret hx hb hr (fun t ht9 hW => ⟨⟨(0 : Int64), (v, nm), rfl, ⟨hv, hV_0, (show (v 7).toInt ≤ (v 3).toInt ∧ ((v 4).toInt ≠ 0 ∨ (v 4).toInt = 0) from by first | omega | (subst_vars; first | rfl | omega)), (show 0 ≤ mz (v 3).toInt (v 7).toInt (v 8).toInt ∧ mz (v 3).toInt (v 7).toInt (v 8).toInt ≤ mz (v 3).toInt (v 7).toInt (v 8).toInt from by omega)⟩, ⟨by rw [ht9]; exact hP, hD⟩⟩, hS.F ht9⟩) hS.2.2 dX12_fresh_8
def okW (c : Int) : Prop := c = 0 ∨ c = 98 ∨ c = 101 ∨ c = 105 ∨ c = 109 ∨ c = 110 ∨ c = 119
theorem okW.rg {c : Int} (h : okW c) : c = 0 ∨ (97 ≤ c ∧ c ≤ 122) := by
  unfold okW at h
  omega
theorem okW.ok {c n : Int} (h : okW c) (h0 : c ≠ 0) (hn : (¬ c = 105 ∧ ¬ c = 98 ∧ ¬ c = 101) ∨ (0 ≤ n ∧ n ≤ 13)) : okc c n := by
  unfold okW at h
  unfold okc
  omega
set_option maxHeartbeats 4000000 in
set_option maxRecDepth 100000 in
theorem m_wordHere (l : Launch) (G : va_G) (cy : Nat → ClassId) (sz : Nat) (mo : Nat) (h : Nat → Nat) (T : Int) (v : Nat → Int32) (nm : Int64) (f : Nat → Nat → Int32) (g : Nat → Nat → Int64)   (hv : MIv T v) (hf : MIf f) (hR : RI v f) (hL : WL v f)  : Met l yX12_wordHere (.code yX12_wordHere cX12_wordHere 1 (some .int) :: TBg) ({ frames := 2, cells := 0, slots := 0, locals := 128 }) (va_Pc [.ref mo] (En G cy (WMs cy mo h v nm f g) sz)) (va_Qi (fun (r : Int32) (_ : Unit) => ((0 ≤ r.toInt ∧ r.toInt ≤ 119) ∧ (r.toInt = 0 ∨ (v 8).toInt = 3)) ∧ (okW r.toInt)) (fun _ _ => True) (va_A [] sz)) 0 0 (va_A [] sz) := by
  refine Met.ofW (cc := cX12_wordHere) (maxL := 1) (ret := (some .int)) (by decide) rfl ?_
  intro p e s m args below meth c s₁ B hml hv9
  obtain ⟨rfl, hsz, hP, hK, hD0, hN⟩ := hv9
  have hx := B.exec
  have hb := B.bytes
  have hr := B.returns
  have hts := atoms_spec (ws := .code yX12_wordHere cX12_wordHere 1 (some .int) :: TBg) B.pre
  have ht : ∀ w ∈ TBg, w.before _ s = true := fun w h => hts w (List.mem_cons_of_mem _ h)
  have hown : s.vm.findClass RX12 = some m.cls := findClass_of_methodNamed B.named
  have hlocks := B.notSynchronized
  subst hsz
  generalize hAe : va_A [] s.heap.size = A at ⊢
  have hA : ∀ q : Nat, s.heap.size ≤ q → A q := fun q h => by rw [← hAe]; exact Or.inr h
  have hS : va_S A s.heap s.heap [] := va_S.rf
  have hl := lv_entry ([.ref mo]) (n := 1) (Nat.le_of_ble_eq_true rfl)
  rw [lg_entry_eq]
  generalize (lg_sl ([.ref mo]) ++ List.replicate (1 - (lg_sl ([.ref mo])).length) Slot.unset).toArray = ls at hl ⊢
  have hl : lv_has ls 1 [(0, .ref mo)] := hl
  have z0 : (0 : Int32).toInt = 0 := by decide
  have z1 : (98 : Int32).toInt = 98 := by decide
  have z2 : (101 : Int32).toInt = 101 := by decide
  have z3 : (105 : Int32).toInt = 105 := by decide
  have z4 : (109 : Int32).toInt = 109 := by decide
  have z5 : (110 : Int32).toInt = 110 := by decide
  have z6 : (119 : Int32).toInt = 119 := by decide
  refine lv_aload_n hx hb dX12_wordHere_0 rfl (lv_at hl 0 rfl) ?_
  refine lv_ldc2 (v := 26990) hx hb hown (ht _ k_204) dX12_wordHere_1 ?_
  have hFc := fr_new hS hA
  refine va_calli (va_runV (As := [.long (26990 : Int64)]) (rest := []) ⟨hx, hb, hml, hown, ht⟩ (m_isWord l G cy _ mo h T v nm f g (26990 : Int64)  hv hf hR hL) (cwV 1 ht (gv k_240 k_241 k_242 k_61 k_239) rfl rfl rfl (by decide +kernel) ⟨Nat.le_of_ble_eq_true rfl, Nat.le_of_ble_eq_true rfl⟩) ⟨En.blind, va_recv hK hP (ci := 12) (q0 := 0) rfl rfl, fun U hU hW => ⟨rfl, En.of hU hW hP hK hD0 hN⟩⟩ rfl rfl hl.1 rfl (lv_room (Nat.le_of_ble_eq_true rfl)) dX12_wordHere_4 ⟨Nat.le_of_ble_eq_true rfl, Nat.le_of_ble_eq_true rfl⟩) hS (fun q _ h => hFc q h) hFc (fun r_u_1 u_1 t9 H locs ht9 hvm hw hB hz1 hk1 hS => ?_)
  have hP := fr_keep hP hk1
  obtain ⟨wu_1, xu_1_W⟩ := hw
  clear hFc hk1 hz1 hB
  have wu_1 : (r_u_1.toInt = 0 ∨ r_u_1.toInt = 1) ∧ (r_u_1.toInt = 0 ∨ (v 8).toInt = 3) := wu_1
  have xu_1_W : (r_u_1.toInt = 1 → nm = (26990 : Int64)) ∧ (r_u_1.toInt = 0 → (v 8).toInt = 3 → ¬ nm = (26990 : Int64)) := by
    have h9 : (r_u_1.toInt = 1 → nm = (26990 : Int64)) ∧ (r_u_1.toInt = 0 → (v 8).toInt = 3 → ¬ nm = (26990 : Int64)) := xu_1_W
    exact h9
  refine lv_if_eq (tgt := 13) hx hb dX12_wordHere_7 (by decide) (fun c_2 => ?_) (fun c_2 => ?_)
  · have q_3 : r_u_1.toInt = (0 : Int32).toInt := (ow_eq _ _).mp c_2
    refine lv_aload_n hx hb dX12_wordHere_13 rfl (lv_at hl 0 rfl) ?_
    refine lv_ldc2 (v := 108187666181747) hx hb hown (ht _ k_205) dX12_wordHere_14 ?_
    have hFc := fr_new hS hA
    refine va_calli (va_runV (As := [.long (108187666181747 : Int64)]) (rest := []) ⟨hx, hb, hml, hown, ht⟩ (m_isWord l G cy _ mo h T v nm f g (108187666181747 : Int64)  hv hf hR hL) (cwV 1 ht (gv k_240 k_241 k_242 k_61 k_239) rfl rfl rfl (by decide +kernel) ⟨Nat.le_of_ble_eq_true rfl, Nat.le_of_ble_eq_true rfl⟩) ⟨En.blind, va_recv hK hP (ci := 12) (q0 := 0) rfl rfl, fun U hU hW => ⟨rfl, En.of hU hW hP hK hD0 hN⟩⟩ rfl rfl hl.1 rfl (lv_room (Nat.le_of_ble_eq_true rfl)) dX12_wordHere_17 ⟨Nat.le_of_ble_eq_true rfl, Nat.le_of_ble_eq_true rfl⟩) hS (fun q _ h => hFc q h) hFc (fun r_u_4 u_4 t9 H locs ht9 hvm hw hB hz1 hk1 hS => ?_)
    have hP := fr_keep hP hk1
    obtain ⟨wu_4, xu_4_W⟩ := hw
    clear hFc hk1 hz1 hB
    have wu_4 : (r_u_4.toInt = 0 ∨ r_u_4.toInt = 1) ∧ (r_u_4.toInt = 0 ∨ (v 8).toInt = 3) := wu_4
    have xu_4_W : (r_u_4.toInt = 1 → nm = (108187666181747 : Int64)) ∧ (r_u_4.toInt = 0 → (v 8).toInt = 3 → ¬ nm = (108187666181747 : Int64)) := by
      have h9 : (r_u_4.toInt = 1 → nm = (108187666181747 : Int64)) ∧ (r_u_4.toInt = 0 → (v 8).toInt = 3 → ¬ nm = (108187666181747 : Int64)) := xu_4_W
      exact h9
    refine lv_if_eq (tgt := 26) hx hb dX12_wordHere_20 (by decide) (fun c_5 => ?_) (fun c_5 => ?_)
    · have q_6 : r_u_4.toInt = (0 : Int32).toInt := (ow_eq _ _).mp c_5
      refine lv_aload_n hx hb dX12_wordHere_26 rfl (lv_at hl 0 rfl) ?_
      refine lv_ldc2 (v := 1701733491) hx hb hown (ht _ k_191) dX12_wordHere_27 ?_
      have hFc := fr_new hS hA
      refine va_calli (va_runV (As := [.long (1701733491 : Int64)]) (rest := []) ⟨hx, hb, hml, hown, ht⟩ (m_isWord l G cy _ mo h T v nm f g (1701733491 : Int64)  hv hf hR hL) (cwV 1 ht (gv k_240 k_241 k_242 k_61 k_239) rfl rfl rfl (by decide +kernel) ⟨Nat.le_of_ble_eq_true rfl, Nat.le_of_ble_eq_true rfl⟩) ⟨En.blind, va_recv hK hP (ci := 12) (q0 := 0) rfl rfl, fun U hU hW => ⟨rfl, En.of hU hW hP hK hD0 hN⟩⟩ rfl rfl hl.1 rfl (lv_room (Nat.le_of_ble_eq_true rfl)) dX12_wordHere_30 ⟨Nat.le_of_ble_eq_true rfl, Nat.le_of_ble_eq_true rfl⟩) hS (fun q _ h => hFc q h) hFc (fun r_u_7 u_7 t9 H locs ht9 hvm hw hB hz1 hk1 hS => ?_)
      have hP := fr_keep hP hk1
      obtain ⟨wu_7, xu_7_W⟩ := hw
      clear hFc hk1 hz1 hB
      have wu_7 : (r_u_7.toInt = 0 ∨ r_u_7.toInt = 1) ∧ (r_u_7.toInt = 0 ∨ (v 8).toInt = 3) := wu_7
      have xu_7_W : (r_u_7.toInt = 1 → nm = (1701733491 : Int64)) ∧ (r_u_7.toInt = 0 → (v 8).toInt = 3 → ¬ nm = (1701733491 : Int64)) := by
        have h9 : (r_u_7.toInt = 1 → nm = (1701733491 : Int64)) ∧ (r_u_7.toInt = 0 → (v 8).toInt = 3 → ¬ nm = (1701733491 : Int64)) := xu_7_W
        exact h9
      refine lv_if_eq (tgt := 39) hx hb dX12_wordHere_33 (by decide) (fun c_8 => ?_) (fun c_8 => ?_)
      · have q_9 : r_u_7.toInt = (0 : Int32).toInt := (ow_eq _ _).mp c_8
        refine lv_aload_n hx hb dX12_wordHere_39 rfl (lv_at hl 0 rfl) ?_
        refine lv_ldc2 (v := 474214787188) hx hb hown (ht _ k_192) dX12_wordHere_40 ?_
        have hFc := fr_new hS hA
        refine va_calli (va_runV (As := [.long (474214787188 : Int64)]) (rest := []) ⟨hx, hb, hml, hown, ht⟩ (m_isWord l G cy _ mo h T v nm f g (474214787188 : Int64)  hv hf hR hL) (cwV 1 ht (gv k_240 k_241 k_242 k_61 k_239) rfl rfl rfl (by decide +kernel) ⟨Nat.le_of_ble_eq_true rfl, Nat.le_of_ble_eq_true rfl⟩) ⟨En.blind, va_recv hK hP (ci := 12) (q0 := 0) rfl rfl, fun U hU hW => ⟨rfl, En.of hU hW hP hK hD0 hN⟩⟩ rfl rfl hl.1 rfl (lv_room (Nat.le_of_ble_eq_true rfl)) dX12_wordHere_43 ⟨Nat.le_of_ble_eq_true rfl, Nat.le_of_ble_eq_true rfl⟩) hS (fun q _ h => hFc q h) hFc (fun r_u_10 u_10 t9 H locs ht9 hvm hw hB hz1 hk1 hS => ?_)
        have hP := fr_keep hP hk1
        obtain ⟨wu_10, xu_10_W⟩ := hw
        clear hFc hk1 hz1 hB
        have wu_10 : (r_u_10.toInt = 0 ∨ r_u_10.toInt = 1) ∧ (r_u_10.toInt = 0 ∨ (v 8).toInt = 3) := wu_10
        have xu_10_W : (r_u_10.toInt = 1 → nm = (474214787188 : Int64)) ∧ (r_u_10.toInt = 0 → (v 8).toInt = 3 → ¬ nm = (474214787188 : Int64)) := by
          have h9 : (r_u_10.toInt = 1 → nm = (474214787188 : Int64)) ∧ (r_u_10.toInt = 0 → (v 8).toInt = 3 → ¬ nm = (474214787188 : Int64)) := xu_10_W
          exact h9
        refine lv_if_eq (tgt := 52) hx hb dX12_wordHere_46 (by decide) (fun c_11 => ?_) (fun c_11 => ?_)
        · have q_12 : r_u_10.toInt = (0 : Int32).toInt := (ow_eq _ _).mp c_11
          refine lv_aload_n hx hb dX12_wordHere_52 rfl (lv_at hl 0 rfl) ?_
          refine lv_ldc2 (v := 474316301683) hx hb hown (ht _ k_193) dX12_wordHere_53 ?_
          have hFc := fr_new hS hA
          refine va_calli (va_runV (As := [.long (474316301683 : Int64)]) (rest := []) ⟨hx, hb, hml, hown, ht⟩ (m_isWord l G cy _ mo h T v nm f g (474316301683 : Int64)  hv hf hR hL) (cwV 1 ht (gv k_240 k_241 k_242 k_61 k_239) rfl rfl rfl (by decide +kernel) ⟨Nat.le_of_ble_eq_true rfl, Nat.le_of_ble_eq_true rfl⟩) ⟨En.blind, va_recv hK hP (ci := 12) (q0 := 0) rfl rfl, fun U hU hW => ⟨rfl, En.of hU hW hP hK hD0 hN⟩⟩ rfl rfl hl.1 rfl (lv_room (Nat.le_of_ble_eq_true rfl)) dX12_wordHere_56 ⟨Nat.le_of_ble_eq_true rfl, Nat.le_of_ble_eq_true rfl⟩) hS (fun q _ h => hFc q h) hFc (fun r_u_13 u_13 t9 H locs ht9 hvm hw hB hz1 hk1 hS => ?_)
          have hP := fr_keep hP hk1
          obtain ⟨wu_13, xu_13_W⟩ := hw
          clear hFc hk1 hz1 hB
          have wu_13 : (r_u_13.toInt = 0 ∨ r_u_13.toInt = 1) ∧ (r_u_13.toInt = 0 ∨ (v 8).toInt = 3) := wu_13
          have xu_13_W : (r_u_13.toInt = 1 → nm = (474316301683 : Int64)) ∧ (r_u_13.toInt = 0 → (v 8).toInt = 3 → ¬ nm = (474316301683 : Int64)) := by
            have h9 : (r_u_13.toInt = 1 → nm = (474316301683 : Int64)) ∧ (r_u_13.toInt = 0 → (v 8).toInt = 3 → ¬ nm = (474316301683 : Int64)) := xu_13_W
            exact h9
          refine lv_if_eq (tgt := 65) hx hb dX12_wordHere_59 (by decide) (fun c_14 => ?_) (fun c_14 => ?_)
          · have q_15 : r_u_13.toInt = (0 : Int32).toInt := (ow_eq _ _).mp c_14
            refine lv_aload_n hx hb dX12_wordHere_65 rfl (lv_at hl 0 rfl) ?_
            refine lv_ldc2 (v := 2003792494) hx hb hown (ht _ k_194) dX12_wordHere_66 ?_
            have hFc := fr_new hS hA
            refine va_calli (va_runV (As := [.long (2003792494 : Int64)]) (rest := []) ⟨hx, hb, hml, hown, ht⟩ (m_isWord l G cy _ mo h T v nm f g (2003792494 : Int64)  hv hf hR hL) (cwV 1 ht (gv k_240 k_241 k_242 k_61 k_239) rfl rfl rfl (by decide +kernel) ⟨Nat.le_of_ble_eq_true rfl, Nat.le_of_ble_eq_true rfl⟩) ⟨En.blind, va_recv hK hP (ci := 12) (q0 := 0) rfl rfl, fun U hU hW => ⟨rfl, En.of hU hW hP hK hD0 hN⟩⟩ rfl rfl hl.1 rfl (lv_room (Nat.le_of_ble_eq_true rfl)) dX12_wordHere_69 ⟨Nat.le_of_ble_eq_true rfl, Nat.le_of_ble_eq_true rfl⟩) hS (fun q _ h => hFc q h) hFc (fun r_u_16 u_16 t9 H locs ht9 hvm hw hB hz1 hk1 hS => ?_)
            have hP := fr_keep hP hk1
            obtain ⟨wu_16, xu_16_W⟩ := hw
            clear hFc hk1 hz1 hB
            have wu_16 : (r_u_16.toInt = 0 ∨ r_u_16.toInt = 1) ∧ (r_u_16.toInt = 0 ∨ (v 8).toInt = 3) := wu_16
            have xu_16_W : (r_u_16.toInt = 1 → nm = (2003792494 : Int64)) ∧ (r_u_16.toInt = 0 → (v 8).toInt = 3 → ¬ nm = (2003792494 : Int64)) := by
              have h9 : (r_u_16.toInt = 1 → nm = (2003792494 : Int64)) ∧ (r_u_16.toInt = 0 → (v 8).toInt = 3 → ¬ nm = (2003792494 : Int64)) := xu_16_W
              exact h9
            refine lv_if_eq (tgt := 80) hx hb dX12_wordHere_72 (by decide) (fun c_17 => ?_) (fun c_17 => ?_)
            · have q_18 : r_u_16.toInt = (0 : Int32).toInt := (ow_eq _ _).mp c_17
              refine lv_iconst (v := 0) hx hb dX12_wordHere_80 (by decide) ?_
              refine W.widen (k := 0) (n := 0) (Nat.le_of_ble_eq_true rfl) (Nat.le_of_ble_eq_true rfl) ?_
              exact W.iret (v := 0) hx hb hr (fun t ht9 hW => ⟨⟨0, (), rfl, ⟨⟨(by omega), (show (0 : Int32).toInt = 0 ∨ (v 8).toInt = 3 from by first | omega | (subst_vars; first | rfl | omega))⟩, (by unfold okW; omega)⟩, trivial⟩, hS.F ht9⟩) hS.2.2 dX12_wordHere_81
            · have q_19 : ¬ r_u_16.toInt = (0 : Int32).toInt := by have := (not_congr (ow_eq _ _)).mp c_17; omega
              refine lv_bipush (v := 119) hx hb dX12_wordHere_75 (by decide) ?_
              refine lv_goto (tgt := 81) hx hb dX12_wordHere_77 (by decide) ?_
              refine W.widen (k := 0) (n := 0) (Nat.le_of_ble_eq_true rfl) (Nat.le_of_ble_eq_true rfl) ?_
              exact W.iret (v := 119) hx hb hr (fun t ht9 hW => ⟨⟨119, (), rfl, ⟨⟨(by omega), (show (119 : Int32).toInt = 0 ∨ (v 8).toInt = 3 from by first | omega | (subst_vars; first | rfl | omega))⟩, (by unfold okW; omega)⟩, trivial⟩, hS.F ht9⟩) hS.2.2 dX12_wordHere_81
          · have q_20 : ¬ r_u_13.toInt = (0 : Int32).toInt := by have := (not_congr (ow_eq _ _)).mp c_14; omega
            refine lv_bipush (v := 109) hx hb dX12_wordHere_62 (by decide) ?_
            refine W.widen (k := 0) (n := 0) (Nat.le_of_ble_eq_true rfl) (Nat.le_of_ble_eq_true rfl) ?_
            exact W.iret (v := 109) hx hb hr (fun t ht9 hW => ⟨⟨109, (), rfl, ⟨⟨(by omega), (show (109 : Int32).toInt = 0 ∨ (v 8).toInt = 3 from by first | omega | (subst_vars; first | rfl | omega))⟩, (by unfold okW; omega)⟩, trivial⟩, hS.F ht9⟩) hS.2.2 dX12_wordHere_64
        · have q_21 : ¬ r_u_10.toInt = (0 : Int32).toInt := by have := (not_congr (ow_eq _ _)).mp c_11; omega
          refine lv_bipush (v := 110) hx hb dX12_wordHere_49 (by decide) ?_
          refine W.widen (k := 0) (n := 0) (Nat.le_of_ble_eq_true rfl) (Nat.le_of_ble_eq_true rfl) ?_
          exact W.iret (v := 110) hx hb hr (fun t ht9 hW => ⟨⟨110, (), rfl, ⟨⟨(by omega), (show (110 : Int32).toInt = 0 ∨ (v 8).toInt = 3 from by first | omega | (subst_vars; first | rfl | omega))⟩, (by unfold okW; omega)⟩, trivial⟩, hS.F ht9⟩) hS.2.2 dX12_wordHere_51
      · have q_22 : ¬ r_u_7.toInt = (0 : Int32).toInt := by have := (not_congr (ow_eq _ _)).mp c_8; omega
        refine lv_bipush (v := 101) hx hb dX12_wordHere_36 (by decide) ?_
        refine W.widen (k := 0) (n := 0) (Nat.le_of_ble_eq_true rfl) (Nat.le_of_ble_eq_true rfl) ?_
        exact W.iret (v := 101) hx hb hr (fun t ht9 hW => ⟨⟨101, (), rfl, ⟨⟨(by omega), (show (101 : Int32).toInt = 0 ∨ (v 8).toInt = 3 from by first | omega | (subst_vars; first | rfl | omega))⟩, (by unfold okW; omega)⟩, trivial⟩, hS.F ht9⟩) hS.2.2 dX12_wordHere_38
    · have q_23 : ¬ r_u_4.toInt = (0 : Int32).toInt := by have := (not_congr (ow_eq _ _)).mp c_5; omega
      refine lv_bipush (v := 98) hx hb dX12_wordHere_23 (by decide) ?_
      refine W.widen (k := 0) (n := 0) (Nat.le_of_ble_eq_true rfl) (Nat.le_of_ble_eq_true rfl) ?_
      exact W.iret (v := 98) hx hb hr (fun t ht9 hW => ⟨⟨98, (), rfl, ⟨⟨(by omega), (show (98 : Int32).toInt = 0 ∨ (v 8).toInt = 3 from by first | omega | (subst_vars; first | rfl | omega))⟩, (by unfold okW; omega)⟩, trivial⟩, hS.F ht9⟩) hS.2.2 dX12_wordHere_25
  · have q_24 : ¬ r_u_1.toInt = (0 : Int32).toInt := by have := (not_congr (ow_eq _ _)).mp c_2; omega
    refine lv_bipush (v := 105) hx hb dX12_wordHere_10 (by decide) ?_
    refine W.widen (k := 0) (n := 0) (Nat.le_of_ble_eq_true rfl) (Nat.le_of_ble_eq_true rfl) ?_
    exact W.iret (v := 105) hx hb hr (fun t ht9 hW => ⟨⟨105, (), rfl, ⟨⟨(by omega), (show (105 : Int32).toInt = 0 ∨ (v 8).toInt = 3 from by first | omega | (subst_vars; first | rfl | omega))⟩, (by unfold okW; omega)⟩, trivial⟩, hS.F ht9⟩) hS.2.2 dX12_wordHere_12
set_option maxHeartbeats 4000000 in
set_option maxRecDepth 100000 in
theorem m_rankHere (l : Launch) (G : va_G) (cy : Nat → ClassId) (sz : Nat) (mo : Nat) (h : Nat → Nat) (T : Int) (v : Nat → Int32) (nm : Int64) (f : Nat → Nat → Int32) (g : Nat → Nat → Int64)   (hv : MIv T v) (hf : MIf f) (hR : RI v f) (hL : WL v f)  : Met l yX12_rankHere (.code yX12_rankHere cX12_rankHere 1 (some .int) :: TBg) ({ frames := 3, cells := 0, slots := 0, locals := 192 }) (va_Pc [.ref mo] (En G cy (WMs cy mo h v nm f g) sz)) (va_Qi (fun (r : Int32) (_ : Unit) => (0 ≤ r.toInt ∧ r.toInt ≤ 5) ∧ (r.toInt = 0 ∨ ((v 8).toInt ≠ 0 ∧ (r.toInt = 1 ∨ r.toInt = 2 ∨ ((r.toInt = 4 ∨ r.toInt = 5) ∧ 43 ≤ sgn (v 3).toInt (f 1) (v 6).toInt ∧ sgn (v 3).toInt (f 1) (v 6).toInt ≤ 62))))) (fun _ _ => True) (va_A [] sz)) 0 0 (va_A [] sz) := by
  refine Met.ofW (cc := cX12_rankHere) (maxL := 1) (ret := (some .int)) (by decide) rfl ?_
  intro p e s m args below meth c s₁ B hml hv9
  obtain ⟨rfl, hsz, hP, hK, hD0, hN⟩ := hv9
  have hx := B.exec
  have hb := B.bytes
  have hr := B.returns
  have hts := atoms_spec (ws := .code yX12_rankHere cX12_rankHere 1 (some .int) :: TBg) B.pre
  have ht : ∀ w ∈ TBg, w.before _ s = true := fun w h => hts w (List.mem_cons_of_mem _ h)
  have hown : s.vm.findClass RX12 = some m.cls := findClass_of_methodNamed B.named
  have hlocks := B.notSynchronized
  subst hsz
  generalize hAe : va_A [] s.heap.size = A at ⊢
  have hA : ∀ q : Nat, s.heap.size ≤ q → A q := fun q h => by rw [← hAe]; exact Or.inr h
  have hS : va_S A s.heap s.heap [] := va_S.rf
  have hl := lv_entry ([.ref mo]) (n := 1) (Nat.le_of_ble_eq_true rfl)
  rw [lg_entry_eq]
  generalize (lg_sl ([.ref mo]) ++ List.replicate (1 - (lg_sl ([.ref mo])).length) Slot.unset).toArray = ls at hl ⊢
  have hl : lv_has ls 1 [(0, .ref mo)] := hl
  have z0 : (0 : Int32).toInt = 0 := by decide
  have z1 : (1 : Int32).toInt = 1 := by decide
  have z2 : (2 : Int32).toInt = 2 := by decide
  have z3 : (4 : Int32).toInt = 4 := by decide
  have z4 : (5 : Int32).toInt = 5 := by decide
  have z5 : (43 : Int32).toInt = 43 := by decide
  have z6 : (45 : Int32).toInt = 45 := by decide
  have z7 : (60 : Int32).toInt = 60 := by decide
  have z8 : (61 : Int32).toInt = 61 := by decide
  have z9 : (62 : Int32).toInt = 62 := by decide
  refine lv_aload_n hx hb dX12_rankHere_0 rfl (lv_at hl 0 rfl) ?_
  refine lv_ldc2 (v := 6385252) hx hb hown (ht _ k_195) dX12_rankHere_1 ?_
  have hFc := fr_new hS hA
  refine va_calli (va_runV (As := [.long (6385252 : Int64)]) (rest := []) ⟨hx, hb, hml, hown, ht⟩ (m_isWord l G cy _ mo h T v nm f g (6385252 : Int64)  hv hf hR hL) (cwV 1 ht (gv k_240 k_241 k_242 k_61 k_239) rfl rfl rfl (by decide +kernel) ⟨Nat.le_of_ble_eq_true rfl, Nat.le_of_ble_eq_true rfl⟩) ⟨En.blind, va_recv hK hP (ci := 12) (q0 := 0) rfl rfl, fun U hU hW => ⟨rfl, En.of hU hW hP hK hD0 hN⟩⟩ rfl rfl hl.1 rfl (lv_room (Nat.le_of_ble_eq_true rfl)) dX12_rankHere_4 ⟨Nat.le_of_ble_eq_true rfl, Nat.le_of_ble_eq_true rfl⟩) hS (fun q _ h => hFc q h) hFc (fun r_u_1 u_1 t9 H locs ht9 hvm hw hB hz1 hk1 hS => ?_)
  have hP := fr_keep hP hk1
  obtain ⟨wu_1, xu_1_W⟩ := hw
  clear hFc hk1 hz1 hB
  have wu_1 : (r_u_1.toInt = 0 ∨ r_u_1.toInt = 1) ∧ (r_u_1.toInt = 0 ∨ (v 8).toInt = 3) := wu_1
  have xu_1_W : (r_u_1.toInt = 1 → nm = (6385252 : Int64)) ∧ (r_u_1.toInt = 0 → (v 8).toInt = 3 → ¬ nm = (6385252 : Int64)) := by
    have h9 : (r_u_1.toInt = 1 → nm = (6385252 : Int64)) ∧ (r_u_1.toInt = 0 → (v 8).toInt = 3 → ¬ nm = (6385252 : Int64)) := xu_1_W
    exact h9
  refine lv_if_eq (tgt := 12) hx hb dX12_rankHere_7 (by decide) (fun c_2 => ?_) (fun c_2 => ?_)
  · have q_3 : r_u_1.toInt = (0 : Int32).toInt := (ow_eq _ _).mp c_2
    refine lv_aload_n hx hb dX12_rankHere_12 rfl (lv_at hl 0 rfl) ?_
    refine lv_ldc2 (v := 28530) hx hb hown (ht _ k_196) dX12_rankHere_13 ?_
    have hFc := fr_new hS hA
    refine va_calli (va_runV (As := [.long (28530 : Int64)]) (rest := []) ⟨hx, hb, hml, hown, ht⟩ (m_isWord l G cy _ mo h T v nm f g (28530 : Int64)  hv hf hR hL) (cwV 1 ht (gv k_240 k_241 k_242 k_61 k_239) rfl rfl rfl (by decide +kernel) ⟨Nat.le_of_ble_eq_true rfl, Nat.le_of_ble_eq_true rfl⟩) ⟨En.blind, va_recv hK hP (ci := 12) (q0 := 0) rfl rfl, fun U hU hW => ⟨rfl, En.of hU hW hP hK hD0 hN⟩⟩ rfl rfl hl.1 rfl (lv_room (Nat.le_of_ble_eq_true rfl)) dX12_rankHere_16 ⟨Nat.le_of_ble_eq_true rfl, Nat.le_of_ble_eq_true rfl⟩) hS (fun q _ h => hFc q h) hFc (fun r_u_4 u_4 t9 H locs ht9 hvm hw hB hz1 hk1 hS => ?_)
    have hP := fr_keep hP hk1
    obtain ⟨wu_4, xu_4_W⟩ := hw
    clear hFc hk1 hz1 hB
    have wu_4 : (r_u_4.toInt = 0 ∨ r_u_4.toInt = 1) ∧ (r_u_4.toInt = 0 ∨ (v 8).toInt = 3) := wu_4
    have xu_4_W : (r_u_4.toInt = 1 → nm = (28530 : Int64)) ∧ (r_u_4.toInt = 0 → (v 8).toInt = 3 → ¬ nm = (28530 : Int64)) := by
      have h9 : (r_u_4.toInt = 1 → nm = (28530 : Int64)) ∧ (r_u_4.toInt = 0 → (v 8).toInt = 3 → ¬ nm = (28530 : Int64)) := xu_4_W
      exact h9
    refine lv_if_eq (tgt := 24) hx hb dX12_rankHere_19 (by decide) (fun c_5 => ?_) (fun c_5 => ?_)
    · have q_6 : r_u_4.toInt = (0 : Int32).toInt := (ow_eq _ _).mp c_5
      refine lv_aload_n hx hb dX12_rankHere_24 rfl (lv_at hl 0 rfl) ?_
      refine lv_bipush (v := 60) hx hb dX12_rankHere_25 (by decide) ?_
      have hFc := fr_new hS hA
      refine va_calli (va_runV (As := [.int 60]) (rest := []) ⟨hx, hb, hml, hown, ht⟩ (m_stands l G cy _ mo h T v nm f g (60)  hv hf hR hL) (cwV 1 ht (gv k_244 k_245 k_246 k_61 k_243) rfl rfl rfl (by decide +kernel) ⟨Nat.le_of_ble_eq_true rfl, Nat.le_of_ble_eq_true rfl⟩) ⟨En.blind, va_recv hK hP (ci := 12) (q0 := 0) rfl rfl, fun U hU hW => ⟨rfl, En.of hU hW hP hK hD0 hN⟩⟩ rfl rfl hl.1 rfl (lv_room (Nat.le_of_ble_eq_true rfl)) dX12_rankHere_27 ⟨Nat.le_of_ble_eq_true rfl, Nat.le_of_ble_eq_true rfl⟩) hS (fun q _ h => hFc q h) hFc (fun r_u_7 u_7 t9 H locs ht9 hvm hw hB hz1 hk1 hS => ?_)
      have hP := fr_keep hP hk1
      have wu_7 := hw
      clear hFc hk1 hz1 hB hw
      refine lv_if_ne (tgt := 51) hx hb dX12_rankHere_30 (by decide) (fun c_8 => ?_) (fun c_8 => ?_)
      · have q_9 : ¬ r_u_7.toInt = (0 : Int32).toInt := by have := (not_congr (ow_eq _ _)).mp c_8; omega
        refine lv_iconst (v := 4) hx hb dX12_rankHere_51 (by decide) ?_
        refine W.widen (k := 0) (n := 0) (Nat.le_of_ble_eq_true rfl) (Nat.le_of_ble_eq_true rfl) ?_
        exact W.iret (v := 4) hx hb hr (fun t ht9 hW => ⟨⟨4, (), rfl, ⟨(by omega), (show (4 : Int32).toInt = 0 ∨ ((v 8).toInt ≠ 0 ∧ ((4 : Int32).toInt = 1 ∨ (4 : Int32).toInt = 2 ∨ (((4 : Int32).toInt = 4 ∨ (4 : Int32).toInt = 5) ∧ 43 ≤ sgn (v 3).toInt (f 1) (v 6).toInt ∧ sgn (v 3).toInt (f 1) (v 6).toInt ≤ 62))) from by first | omega | (subst_vars; first | rfl | omega))⟩, trivial⟩, hS.F ht9⟩) hS.2.2 dX12_rankHere_52
      · have q_10 : r_u_7.toInt = (0 : Int32).toInt := (ow_eq _ _).mp c_8
        refine lv_aload_n hx hb dX12_rankHere_33 rfl (lv_at hl 0 rfl) ?_
        refine lv_bipush (v := 62) hx hb dX12_rankHere_34 (by decide) ?_
        have hFc := fr_new hS hA
        refine va_calli (va_runV (As := [.int 62]) (rest := []) ⟨hx, hb, hml, hown, ht⟩ (m_stands l G cy _ mo h T v nm f g (62)  hv hf hR hL) (cwV 1 ht (gv k_244 k_245 k_246 k_61 k_243) rfl rfl rfl (by decide +kernel) ⟨Nat.le_of_ble_eq_true rfl, Nat.le_of_ble_eq_true rfl⟩) ⟨En.blind, va_recv hK hP (ci := 12) (q0 := 0) rfl rfl, fun U hU hW => ⟨rfl, En.of hU hW hP hK hD0 hN⟩⟩ rfl rfl hl.1 rfl (lv_room (Nat.le_of_ble_eq_true rfl)) dX12_rankHere_36 ⟨Nat.le_of_ble_eq_true rfl, Nat.le_of_ble_eq_true rfl⟩) hS (fun q _ h => hFc q h) hFc (fun r_u_11 u_11 t9 H locs ht9 hvm hw hB hz1 hk1 hS => ?_)
        have hP := fr_keep hP hk1
        have wu_11 := hw
        clear hFc hk1 hz1 hB hw
        refine lv_if_ne (tgt := 51) hx hb dX12_rankHere_39 (by decide) (fun c_12 => ?_) (fun c_12 => ?_)
        · have q_13 : ¬ r_u_11.toInt = (0 : Int32).toInt := by have := (not_congr (ow_eq _ _)).mp c_12; omega
          refine lv_iconst (v := 4) hx hb dX12_rankHere_51 (by decide) ?_
          refine W.widen (k := 0) (n := 0) (Nat.le_of_ble_eq_true rfl) (Nat.le_of_ble_eq_true rfl) ?_
          exact W.iret (v := 4) hx hb hr (fun t ht9 hW => ⟨⟨4, (), rfl, ⟨(by omega), (show (4 : Int32).toInt = 0 ∨ ((v 8).toInt ≠ 0 ∧ ((4 : Int32).toInt = 1 ∨ (4 : Int32).toInt = 2 ∨ (((4 : Int32).toInt = 4 ∨ (4 : Int32).toInt = 5) ∧ 43 ≤ sgn (v 3).toInt (f 1) (v 6).toInt ∧ sgn (v 3).toInt (f 1) (v 6).toInt ≤ 62))) from by first | omega | (subst_vars; first | rfl | omega))⟩, trivial⟩, hS.F ht9⟩) hS.2.2 dX12_rankHere_52
        · have q_14 : r_u_11.toInt = (0 : Int32).toInt := (ow_eq _ _).mp c_12
          refine lv_aload_n hx hb dX12_rankHere_42 rfl (lv_at hl 0 rfl) ?_
          refine lv_bipush (v := 61) hx hb dX12_rankHere_43 (by decide) ?_
          have hFc := fr_new hS hA
          refine va_calli (va_runV (As := [.int 61]) (rest := []) ⟨hx, hb, hml, hown, ht⟩ (m_stands l G cy _ mo h T v nm f g (61)  hv hf hR hL) (cwV 1 ht (gv k_244 k_245 k_246 k_61 k_243) rfl rfl rfl (by decide +kernel) ⟨Nat.le_of_ble_eq_true rfl, Nat.le_of_ble_eq_true rfl⟩) ⟨En.blind, va_recv hK hP (ci := 12) (q0 := 0) rfl rfl, fun U hU hW => ⟨rfl, En.of hU hW hP hK hD0 hN⟩⟩ rfl rfl hl.1 rfl (lv_room (Nat.le_of_ble_eq_true rfl)) dX12_rankHere_45 ⟨Nat.le_of_ble_eq_true rfl, Nat.le_of_ble_eq_true rfl⟩) hS (fun q _ h => hFc q h) hFc (fun r_u_15 u_15 t9 H locs ht9 hvm hw hB hz1 hk1 hS => ?_)
          have hP := fr_keep hP hk1
          have wu_15 := hw
          clear hFc hk1 hz1 hB hw
          refine lv_if_eq (tgt := 53) hx hb dX12_rankHere_48 (by decide) (fun c_16 => ?_) (fun c_16 => ?_)
          · have q_17 : r_u_15.toInt = (0 : Int32).toInt := (ow_eq _ _).mp c_16
            refine lv_aload_n hx hb dX12_rankHere_53 rfl (lv_at hl 0 rfl) ?_
            refine lv_bipush (v := 43) hx hb dX12_rankHere_54 (by decide) ?_
            have hFc := fr_new hS hA
            refine va_calli (va_runV (As := [.int 43]) (rest := []) ⟨hx, hb, hml, hown, ht⟩ (m_stands l G cy _ mo h T v nm f g (43)  hv hf hR hL) (cwV 1 ht (gv k_244 k_245 k_246 k_61 k_243) rfl rfl rfl (by decide +kernel) ⟨Nat.le_of_ble_eq_true rfl, Nat.le_of_ble_eq_true rfl⟩) ⟨En.blind, va_recv hK hP (ci := 12) (q0 := 0) rfl rfl, fun U hU hW => ⟨rfl, En.of hU hW hP hK hD0 hN⟩⟩ rfl rfl hl.1 rfl (lv_room (Nat.le_of_ble_eq_true rfl)) dX12_rankHere_56 ⟨Nat.le_of_ble_eq_true rfl, Nat.le_of_ble_eq_true rfl⟩) hS (fun q _ h => hFc q h) hFc (fun r_u_18 u_18 t9 H locs ht9 hvm hw hB hz1 hk1 hS => ?_)
            have hP := fr_keep hP hk1
            have wu_18 := hw
            clear hFc hk1 hz1 hB hw
            refine lv_if_ne (tgt := 71) hx hb dX12_rankHere_59 (by decide) (fun c_19 => ?_) (fun c_19 => ?_)
            · have q_20 : ¬ r_u_18.toInt = (0 : Int32).toInt := by have := (not_congr (ow_eq _ _)).mp c_19; omega
              refine lv_iconst (v := 5) hx hb dX12_rankHere_71 (by decide) ?_
              refine lv_goto (tgt := 76) hx hb dX12_rankHere_72 (by decide) ?_
              refine W.widen (k := 0) (n := 0) (Nat.le_of_ble_eq_true rfl) (Nat.le_of_ble_eq_true rfl) ?_
              exact W.iret (v := 5) hx hb hr (fun t ht9 hW => ⟨⟨5, (), rfl, ⟨(by omega), (show (5 : Int32).toInt = 0 ∨ ((v 8).toInt ≠ 0 ∧ ((5 : Int32).toInt = 1 ∨ (5 : Int32).toInt = 2 ∨ (((5 : Int32).toInt = 4 ∨ (5 : Int32).toInt = 5) ∧ 43 ≤ sgn (v 3).toInt (f 1) (v 6).toInt ∧ sgn (v 3).toInt (f 1) (v 6).toInt ≤ 62))) from by first | omega | (subst_vars; first | rfl | omega))⟩, trivial⟩, hS.F ht9⟩) hS.2.2 dX12_rankHere_76
            · have q_21 : r_u_18.toInt = (0 : Int32).toInt := (ow_eq _ _).mp c_19
              refine lv_aload_n hx hb dX12_rankHere_62 rfl (lv_at hl 0 rfl) ?_
              refine lv_bipush (v := 45) hx hb dX12_rankHere_63 (by decide) ?_
              have hFc := fr_new hS hA
              refine va_calli (va_runV (As := [.int 45]) (rest := []) ⟨hx, hb, hml, hown, ht⟩ (m_stands l G cy _ mo h T v nm f g (45)  hv hf hR hL) (cwV 1 ht (gv k_244 k_245 k_246 k_61 k_243) rfl rfl rfl (by decide +kernel) ⟨Nat.le_of_ble_eq_true rfl, Nat.le_of_ble_eq_true rfl⟩) ⟨En.blind, va_recv hK hP (ci := 12) (q0 := 0) rfl rfl, fun U hU hW => ⟨rfl, En.of hU hW hP hK hD0 hN⟩⟩ rfl rfl hl.1 rfl (lv_room (Nat.le_of_ble_eq_true rfl)) dX12_rankHere_65 ⟨Nat.le_of_ble_eq_true rfl, Nat.le_of_ble_eq_true rfl⟩) hS (fun q _ h => hFc q h) hFc (fun r_u_22 u_22 t9 H locs ht9 hvm hw hB hz1 hk1 hS => ?_)
              have hP := fr_keep hP hk1
              have wu_22 := hw
              clear hFc hk1 hz1 hB hw
              refine lv_if_eq (tgt := 75) hx hb dX12_rankHere_68 (by decide) (fun c_23 => ?_) (fun c_23 => ?_)
              · have q_24 : r_u_22.toInt = (0 : Int32).toInt := (ow_eq _ _).mp c_23
                refine lv_iconst (v := 0) hx hb dX12_rankHere_75 (by decide) ?_
                refine W.widen (k := 0) (n := 0) (Nat.le_of_ble_eq_true rfl) (Nat.le_of_ble_eq_true rfl) ?_
                exact W.iret (v := 0) hx hb hr (fun t ht9 hW => ⟨⟨0, (), rfl, ⟨(by omega), (show (0 : Int32).toInt = 0 ∨ ((v 8).toInt ≠ 0 ∧ ((0 : Int32).toInt = 1 ∨ (0 : Int32).toInt = 2 ∨ (((0 : Int32).toInt = 4 ∨ (0 : Int32).toInt = 5) ∧ 43 ≤ sgn (v 3).toInt (f 1) (v 6).toInt ∧ sgn (v 3).toInt (f 1) (v 6).toInt ≤ 62))) from by first | omega | (subst_vars; first | rfl | omega))⟩, trivial⟩, hS.F ht9⟩) hS.2.2 dX12_rankHere_76
              · have q_25 : ¬ r_u_22.toInt = (0 : Int32).toInt := by have := (not_congr (ow_eq _ _)).mp c_23; omega
                refine lv_iconst (v := 5) hx hb dX12_rankHere_71 (by decide) ?_
                refine lv_goto (tgt := 76) hx hb dX12_rankHere_72 (by decide) ?_
                refine W.widen (k := 0) (n := 0) (Nat.le_of_ble_eq_true rfl) (Nat.le_of_ble_eq_true rfl) ?_
                exact W.iret (v := 5) hx hb hr (fun t ht9 hW => ⟨⟨5, (), rfl, ⟨(by omega), (show (5 : Int32).toInt = 0 ∨ ((v 8).toInt ≠ 0 ∧ ((5 : Int32).toInt = 1 ∨ (5 : Int32).toInt = 2 ∨ (((5 : Int32).toInt = 4 ∨ (5 : Int32).toInt = 5) ∧ 43 ≤ sgn (v 3).toInt (f 1) (v 6).toInt ∧ sgn (v 3).toInt (f 1) (v 6).toInt ≤ 62))) from by first | omega | (subst_vars; first | rfl | omega))⟩, trivial⟩, hS.F ht9⟩) hS.2.2 dX12_rankHere_76
          · have q_26 : ¬ r_u_15.toInt = (0 : Int32).toInt := by have := (not_congr (ow_eq _ _)).mp c_16; omega
            refine lv_iconst (v := 4) hx hb dX12_rankHere_51 (by decide) ?_
            refine W.widen (k := 0) (n := 0) (Nat.le_of_ble_eq_true rfl) (Nat.le_of_ble_eq_true rfl) ?_
            exact W.iret (v := 4) hx hb hr (fun t ht9 hW => ⟨⟨4, (), rfl, ⟨(by omega), (show (4 : Int32).toInt = 0 ∨ ((v 8).toInt ≠ 0 ∧ ((4 : Int32).toInt = 1 ∨ (4 : Int32).toInt = 2 ∨ (((4 : Int32).toInt = 4 ∨ (4 : Int32).toInt = 5) ∧ 43 ≤ sgn (v 3).toInt (f 1) (v 6).toInt ∧ sgn (v 3).toInt (f 1) (v 6).toInt ≤ 62))) from by first | omega | (subst_vars; first | rfl | omega))⟩, trivial⟩, hS.F ht9⟩) hS.2.2 dX12_rankHere_52
    · have q_27 : ¬ r_u_4.toInt = (0 : Int32).toInt := by have := (not_congr (ow_eq _ _)).mp c_5; omega
      refine lv_iconst (v := 1) hx hb dX12_rankHere_22 (by decide) ?_
      refine W.widen (k := 0) (n := 0) (Nat.le_of_ble_eq_true rfl) (Nat.le_of_ble_eq_true rfl) ?_
      exact W.iret (v := 1) hx hb hr (fun t ht9 hW => ⟨⟨1, (), rfl, ⟨(by omega), (show (1 : Int32).toInt = 0 ∨ ((v 8).toInt ≠ 0 ∧ ((1 : Int32).toInt = 1 ∨ (1 : Int32).toInt = 2 ∨ (((1 : Int32).toInt = 4 ∨ (1 : Int32).toInt = 5) ∧ 43 ≤ sgn (v 3).toInt (f 1) (v 6).toInt ∧ sgn (v 3).toInt (f 1) (v 6).toInt ≤ 62))) from by first | omega | (subst_vars; first | rfl | omega))⟩, trivial⟩, hS.F ht9⟩) hS.2.2 dX12_rankHere_23
  · have q_28 : ¬ r_u_1.toInt = (0 : Int32).toInt := by have := (not_congr (ow_eq _ _)).mp c_2; omega
    refine lv_iconst (v := 2) hx hb dX12_rankHere_10 (by decide) ?_
    refine W.widen (k := 0) (n := 0) (Nat.le_of_ble_eq_true rfl) (Nat.le_of_ble_eq_true rfl) ?_
    exact W.iret (v := 2) hx hb hr (fun t ht9 hW => ⟨⟨2, (), rfl, ⟨(by omega), (show (2 : Int32).toInt = 0 ∨ ((v 8).toInt ≠ 0 ∧ ((2 : Int32).toInt = 1 ∨ (2 : Int32).toInt = 2 ∨ (((2 : Int32).toInt = 4 ∨ (2 : Int32).toInt = 5) ∧ 43 ≤ sgn (v 3).toInt (f 1) (v 6).toInt ∧ sgn (v 3).toInt (f 1) (v 6).toInt ≤ 62))) from by first | omega | (subst_vars; first | rfl | omega))⟩, trivial⟩, hS.F ht9⟩) hS.2.2 dX12_rankHere_11
set_option maxHeartbeats 4000000 in
set_option maxRecDepth 100000 in
theorem m_isCompared (l : Launch) (G : va_G) (cy : Nat → ClassId) (sz : Nat) (mo : Nat) (h : Nat → Nat) (T : Int) (v : Nat → Int32) (nm : Int64) (f : Nat → Nat → Int32) (g : Nat → Nat → Int64)   (hv : MIv T v) (hf : MIf f) (hR : RI v f) (hL : WL v f) (hp1 : 1 ≤ (v 33).toInt) (h70 : (f 26 0).toInt = 7) : Met l yX12_isCompared (.code yX12_isCompared cX12_isCompared 2 (some .boolean) :: TBg) ({ frames := 1, cells := 0, slots := 0, locals := 64 }) (va_Pc [.ref mo] (En G cy (WMs cy mo h v nm f g) sz)) (va_Qi (fun (r : Int32) (_ : Unit) => (r.toInt = 0 ∨ r.toInt = 1)) (fun _ _ => True) (va_A [] sz)) 0 0 (va_A [] sz) := by
  refine Met.ofW (cc := cX12_isCompared) (maxL := 2) (ret := (some .boolean)) (by decide) rfl ?_
  intro p e s m args below meth c s₁ B hml hv9
  obtain ⟨rfl, hsz, hP, hK, hD0, hN⟩ := hv9
  have hx := B.exec
  have hb := B.bytes
  have hr := B.returns
  have hts := atoms_spec (ws := .code yX12_isCompared cX12_isCompared 2 (some .boolean) :: TBg) B.pre
  have ht : ∀ w ∈ TBg, w.before _ s = true := fun w h => hts w (List.mem_cons_of_mem _ h)
  have hown : s.vm.findClass RX12 = some m.cls := findClass_of_methodNamed B.named
  have hlocks := B.notSynchronized
  subst hsz
  generalize hAe : va_A [] s.heap.size = A at ⊢
  have hA : ∀ q : Nat, s.heap.size ≤ q → A q := fun q h => by rw [← hAe]; exact Or.inr h
  have hS : va_S A s.heap s.heap [] := va_S.rf
  have hl := lv_entry ([.ref mo]) (n := 2) (Nat.le_of_ble_eq_true rfl)
  rw [lg_entry_eq]
  generalize (lg_sl ([.ref mo]) ++ List.replicate (2 - (lg_sl ([.ref mo])).length) Slot.unset).toArray = ls at hl ⊢
  have hl : lv_has ls 2 [(0, .ref mo)] := hl
  have z0 : (-1 : Int32).toInt = -1 := by decide
  have z1 : (0 : Int32).toInt = 0 := by decide
  have z2 : (1 : Int32).toInt = 1 := by decide
  have z3 : (4 : Int32).toInt = 4 := by decide
  have z4 : (5 : Int32).toInt = 5 := by decide
  refine lv_aload_n hx hb dX12_isCompared_0 rfl (lv_at hl 0 rfl) ?_
  refine mg_33 hx hb ht hown hK hP dX12_isCompared_1 ?_
  have q_1 : 0 ≤ (v 33).toInt ∧ (v 33).toInt ≤ 120 := hv 33
  refine lv_iconst (v := 1) hx hb dX12_isCompared_4 (by decide) ?_
  refine lv_isub hx hb dX12_isCompared_5 ?_
  refine lv_topi (fun v_2 ev_2 => ?_)
  have q_3 : v_2.toInt = (v 33).toInt - (1 : Int32).toInt := ow_sub ev_2 (by omega) (by omega)
  refine lv_istore_n (lv' := [(1, .int v_2), (0, .ref mo)]) hx hb dX12_isCompared_6 rfl hl (by decide) rfl (fun ls hl => ?_)
  refine W.widen (k := 0) (n := 0) (Nat.le_of_ble_eq_true rfl) (Nat.le_of_ble_eq_true rfl) ?_
  have lp_4 : ∀ (N_4 : Nat) (x1_4 : Int32) (H : Heap) (locs : List Loc) (ls : Array Slot), (0 ≤ x1_4.toInt ∧ x1_4.toInt ≤ 119) → (x1_4.toInt).toNat < N_4 → va_P G vwCl (WMs cy mo h v nm f g) H → va_S A s.heap H locs → lv_has ls 2 [(1, .int x1_4), (0, .ref mo)] → W p l e (headSpec (.code yX12_isCompared cX12_isCompared 2 (some .boolean) :: TBg) ({ frames := 1, cells := 0, slots := 0, locals := 64 })).room s m ([.ref mo] : List Value).toArray below meth c H locs 0 0 (MQ below (va_Qi (fun (r : Int32) (_ : Unit) => (r.toInt = 0 ∨ r.toInt = 1)) (fun _ _ => True) A) ([.ref mo] : List Value).toArray s 0 0 A) (F0 m 7 ls []) := by
    intro N_4
    induction N_4 with
    | zero => intro x1_4 H locs ls qf4_0 hm hP hS hl; exact absurd hm (Nat.not_lt_zero _)
    | succ N_4 ih_4 =>
      intro x1_4 H locs ls qf4_0 hm hP hS hl
      refine lv_aload_n hx hb dX12_isCompared_7 rfl (lv_at hl 1 rfl) ?_
      refine mg_26 hx hb ht hown hK hP dX12_isCompared_8 ?_
      refine lv_iload_n hx hb dX12_isCompared_11 rfl (lv_at hl 0 rfl) ?_
      have q_5 : vp_in x1_4 120 := vp_in_iff.mpr ⟨by omega, by omega⟩
      refine ml_26 hx hb hK hP q_5 dX12_isCompared_12 ?_
      refine lv_topi (fun v_6 ev_6 => ?_)
      have q_7 : v_6.toInt = ((f 26) (Int32.toNatClampNeg x1_4)).toInt := (congrArg Int32.toInt ev_6).trans (congrArg (fun z : Nat → Int32 => (z (Int32.toNatClampNeg x1_4)).toInt) (show f 26 = (f 26) from rfl))
      refine lv_iconst (v := 5) hx hb dX12_isCompared_13 (by decide) ?_
      refine lv_icmp_ne (tgt := 23) hx hb dX12_isCompared_14 (by decide) (fun c_8 => ?_) (fun c_8 => ?_)
      · have q_9 : ¬ v_6.toInt = (5 : Int32).toInt := by have := (not_congr (ow_eq _ _)).mp c_8; omega
        refine lv_aload_n hx hb dX12_isCompared_23 rfl (lv_at hl 1 rfl) ?_
        refine mg_26 hx hb ht hown hK hP dX12_isCompared_24 ?_
        refine lv_iload_n hx hb dX12_isCompared_27 rfl (lv_at hl 0 rfl) ?_
        refine ml_26 hx hb hK hP q_5 dX12_isCompared_28 ?_
        refine ow_top v_6 ev_6.symm ?_
        refine lv_iconst (v := 4) hx hb dX12_isCompared_29 (by decide) ?_
        refine lv_icmp_ne (tgt := 37) hx hb dX12_isCompared_30 (by decide) (fun c_10 => ?_) (fun c_10 => ?_)
        · have q_11 : ¬ v_6.toInt = (4 : Int32).toInt := by have := (not_congr (ow_eq _ _)).mp c_10; omega
          refine lv_iconst (v := 0) hx hb dX12_isCompared_37 (by decide) ?_
          refine W.widen (k := 0) (n := 0) (Nat.le_of_ble_eq_true rfl) (Nat.le_of_ble_eq_true rfl) ?_
          exact W.zret (v := 0) hx hb hr rfl (fun t ht9 hW => ⟨⟨0, (), rfl, (by omega), trivial⟩, hS.F ht9⟩) hS.2.2 dX12_isCompared_38
        · have q_12 : v_6.toInt = (4 : Int32).toInt := (ow_eq _ _).mp c_10
          refine lv_iconst (v := 1) hx hb dX12_isCompared_33 (by decide) ?_
          refine lv_goto (tgt := 38) hx hb dX12_isCompared_34 (by decide) ?_
          refine W.widen (k := 0) (n := 0) (Nat.le_of_ble_eq_true rfl) (Nat.le_of_ble_eq_true rfl) ?_
          exact W.zret (v := 1) hx hb hr rfl (fun t ht9 hW => ⟨⟨1, (), rfl, (by omega), trivial⟩, hS.F ht9⟩) hS.2.2 dX12_isCompared_38
      · have q_13 : v_6.toInt = (5 : Int32).toInt := (ow_eq _ _).mp c_8
        obtain ⟨v_14, ev_14⟩ : ∃ y : Int32, y = x1_4 + (-1) := ⟨_, rfl⟩
        refine lv_iinc (v := v_14) (lv' := [(1, .int v_14), (0, .ref mo)]) hx hb dX12_isCompared_17 hl (k := 0) rfl (by rw [ev_14]; rfl) (by decide) rfl (fun ls hl => ?_)
        have q_15 : v_14.toInt = x1_4.toInt + -1 := by have := ow_add ev_14 (by omega) (by omega); omega
        refine lv_goto (tgt := 7) hx hb dX12_isCompared_20 (by decide) ?_
        refine W.widen (k := 0) (n := 0) (Nat.le_of_ble_eq_true rfl) (Nat.le_of_ble_eq_true rfl) ?_
        have hk9 : ¬ x1_4.toInt = 0 := fun e9 => by
          have e2 : (Int32.toNatClampNeg x1_4) = 0 := by rw [ow_tn]; omega
          have e3 : (f 26 (Int32.toNatClampNeg x1_4)).toInt = (f 26 0).toInt := by rw [e2]
          omega
        exact ih_4 v_14 _ _ _ (by omega) (by omega) hP hS (lv_sub hl [0, 1] rfl)
  exact lp_4 _ v_2 _ _ _ (by omega) (Nat.lt_succ_self _) hP hS (lv_sub hl [0, 1] rfl)
