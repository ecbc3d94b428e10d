theorem k_159 : (Cond.code yX12_overlap cX12_overlap 6 (some .int)) ∈ TBg := tb_mem 1443 (by decide +kernel) (by decide +kernel)
theorem k_160 : (Cond.methodLink RX12 385 yX12_overlap) ∈ TBg := tb_mem 1440 (by decide +kernel) (by decide +kernel)
theorem k_161 : (Cond.instanceMethod yX12_overlap) ∈ TBg := tb_mem 1442 (by decide +kernel) (by decide +kernel)
theorem k_162 : (Cond.selects RX12 yX12_overlap yX12_overlap) ∈ TBg := tb_mem 74 (by decide +kernel) (by decide +kernel)
theorem k_163 : (Cond.code yX12_isAlike cX12_isAlike 3 (some .boolean)) ∈ TBg := tb_mem 1439 (by decide +kernel) (by decide +kernel)
theorem k_164 : (Cond.methodLink RX12 381 yX12_isAlike) ∈ TBg := tb_mem 1436 (by decide +kernel) (by decide +kernel)
theorem k_165 : (Cond.instanceMethod yX12_isAlike) ∈ TBg := tb_mem 1438 (by decide +kernel) (by decide +kernel)
theorem k_166 : (Cond.selects RX12 yX12_isAlike yX12_isAlike) ∈ TBg := tb_mem 73 (by decide +kernel) (by decide +kernel)
theorem k_167 : (Cond.code yX12_nextRow cX12_nextRow 6 (some .boolean)) ∈ TBg := tb_mem 1455 (by decide +kernel) (by decide +kernel)
theorem k_168 : (Cond.methodLink RX12 391 yX12_nextRow) ∈ TBg := tb_mem 1452 (by decide +kernel) (by decide +kernel)
theorem k_169 : (Cond.instanceMethod yX12_nextRow) ∈ TBg := tb_mem 1454 (by decide +kernel) (by decide +kernel)
theorem k_170 : (Cond.selects RX12 yX12_nextRow yX12_nextRow) ∈ TBg := tb_mem 77 (by decide +kernel) (by decide +kernel)
theorem k_171 : (Cond.code yX12_keepTunes cX12_keepTunes 5 none) ∈ TBg := tb_mem 1435 (by decide +kernel) (by decide +kernel)
theorem k_172 : (Cond.methodLink RX12 394 yX12_keepTunes) ∈ TBg := tb_mem 1432 (by decide +kernel) (by decide +kernel)
theorem k_173 : (Cond.instanceMethod yX12_keepTunes) ∈ TBg := tb_mem 1434 (by decide +kernel) (by decide +kernel)
theorem k_174 : (Cond.selects RX12 yX12_keepTunes yX12_keepTunes) ∈ TBg := tb_mem 72 (by decide +kernel) (by decide +kernel)
theorem k_175 : (Cond.code yX12_layMaster cX12_layMaster 4 none) ∈ TBg := tb_mem 1451 (by decide +kernel) (by decide +kernel)
theorem k_176 : (Cond.methodLink RX12 398 yX12_layMaster) ∈ TBg := tb_mem 1448 (by decide +kernel) (by decide +kernel)
theorem k_177 : (Cond.instanceMethod yX12_layMaster) ∈ TBg := tb_mem 1450 (by decide +kernel) (by decide +kernel)
theorem k_178 : (Cond.selects RX12 yX12_layMaster yX12_layMaster) ∈ TBg := tb_mem 76 (by decide +kernel) (by decide +kernel)
theorem k_179 : (Cond.code yX12_lengthOf cX12_lengthOf 4 (some .int)) ∈ TBg := tb_mem 1467 (by decide +kernel) (by decide +kernel)
theorem k_180 : (Cond.methodLink RX12 401 yX12_lengthOf) ∈ TBg := tb_mem 1464 (by decide +kernel) (by decide +kernel)
theorem k_181 : (Cond.instanceMethod yX12_lengthOf) ∈ TBg := tb_mem 1466 (by decide +kernel) (by decide +kernel)
theorem k_182 : (Cond.selects RX12 yX12_lengthOf yX12_lengthOf) ∈ TBg := tb_mem 79 (by decide +kernel) (by decide +kernel)
theorem k_183 : (Cond.code yX12_highAt cX12_highAt 5 (some .int)) ∈ TBg := tb_mem 1471 (by decide +kernel) (by decide +kernel)
theorem k_184 : (Cond.methodLink RX12 404 yX12_highAt) ∈ TBg := tb_mem 1468 (by decide +kernel) (by decide +kernel)
theorem k_185 : (Cond.instanceMethod yX12_highAt) ∈ TBg := tb_mem 1470 (by decide +kernel) (by decide +kernel)
theorem k_186 : (Cond.selects RX12 yX12_highAt yX12_highAt) ∈ TBg := tb_mem 80 (by decide +kernel) (by decide +kernel)
theorem k_187 : (Cond.code yX12_roundOf cX12_roundOf 5 (some .int)) ∈ TBg := tb_mem 1463 (by decide +kernel) (by decide +kernel)
theorem k_188 : (Cond.methodLink RX12 407 yX12_roundOf) ∈ TBg := tb_mem 1460 (by decide +kernel) (by decide +kernel)
theorem k_189 : (Cond.instanceMethod yX12_roundOf) ∈ TBg := tb_mem 1462 (by decide +kernel) (by decide +kernel)
theorem k_190 : (Cond.selects RX12 yX12_roundOf yX12_roundOf) ∈ TBg := tb_mem 78 (by decide +kernel) (by decide +kernel)
theorem dX12_isAlike_0 : decode cX12_isAlike 0 = .ok (.aload_n 0, 1) := by decide +kernel
theorem dX12_isAlike_1 : decode cX12_isAlike 1 = .ok (.aload_n 0, 1) := by decide +kernel
theorem dX12_isAlike_2 : decode cX12_isAlike 2 = .ok (.iload_n 1, 1) := by decide +kernel
theorem dX12_isAlike_3 : decode cX12_isAlike 3 = .ok (.invokevirtual 341, 3) := by decide +kernel
theorem dX12_isAlike_6 : decode cX12_isAlike 6 = .ok (.aload_n 0, 1) := by decide +kernel
theorem dX12_isAlike_7 : decode cX12_isAlike 7 = .ok (.iload_n 2, 1) := by decide +kernel
theorem dX12_isAlike_8 : decode cX12_isAlike 8 = .ok (.invokevirtual 341, 3) := by decide +kernel
theorem dX12_isAlike_11 : decode cX12_isAlike 11 = .ok (.iconst 0, 1) := by decide +kernel
theorem dX12_isAlike_12 : decode cX12_isAlike 12 = .ok (.invokevirtual 351, 3) := by decide +kernel
theorem dX12_isAlike_15 : decode cX12_isAlike 15 = .ok (.ireturn, 1) := by decide +kernel
theorem dX12_dealt_0 : decode cX12_dealt 0 = .ok (.iload_n 1, 1) := by decide +kernel
theorem dX12_dealt_1 : decode cX12_dealt 1 = .ok (.iconst 0, 1) := by decide +kernel
theorem dX12_dealt_2 : decode cX12_dealt 2 = .ok (.bipush 99, 2) := by decide +kernel
theorem dX12_dealt_4 : decode cX12_dealt 4 = .ok (.invokestatic 311, 3) := by decide +kernel
theorem dX12_dealt_7 : decode cX12_dealt 7 = .ok (.ifCond .ne 5, 3) := by decide +kernel
theorem dX12_dealt_12 : decode cX12_dealt 12 = .ok (.aload_n 0, 1) := by decide +kernel
theorem dX12_dealt_13 : decode cX12_dealt 13 = .ok (.getfield 20, 3) := by decide +kernel
theorem dX12_dealt_16 : decode cX12_dealt 16 = .ok (.aload_n 0, 1) := by decide +kernel
theorem dX12_dealt_17 : decode cX12_dealt 17 = .ok (.getfield 227, 3) := by decide +kernel
theorem dX12_dealt_20 : decode cX12_dealt 20 = .ok (.iaload, 1) := by decide +kernel
theorem dX12_dealt_21 : decode cX12_dealt 21 = .ok (.istore_n 2, 1) := by decide +kernel
theorem dX12_dealt_22 : decode cX12_dealt 22 = .ok (.iconst 0, 1) := by decide +kernel
theorem dX12_dealt_23 : decode cX12_dealt 23 = .ok (.istore_n 3, 1) := by decide +kernel
theorem dX12_dealt_24 : decode cX12_dealt 24 = .ok (.iload_n 3, 1) := by decide +kernel
theorem dX12_dealt_25 : decode cX12_dealt 25 = .ok (.iload_n 2, 1) := by decide +kernel
theorem dX12_dealt_26 : decode cX12_dealt 26 = .ok (.if_icmp .ge 88, 3) := by decide +kernel
theorem dX12_dealt_114 : decode cX12_dealt 114 = .ok (.iconst 0, 1) := by decide +kernel
theorem dX12_dealt_115 : decode cX12_dealt 115 = .ok (.istore_n 3, 1) := by decide +kernel
theorem dX12_dealt_116 : decode cX12_dealt 116 = .ok (.iconst 1, 1) := by decide +kernel
theorem dX12_dealt_117 : decode cX12_dealt 117 = .ok (.istore 4, 2) := by decide +kernel
theorem dX12_dealt_119 : decode cX12_dealt 119 = .ok (.iload 4, 2) := by decide +kernel
theorem dX12_dealt_121 : decode cX12_dealt 121 = .ok (.iconst 1, 1) := by decide +kernel
theorem dX12_dealt_122 : decode cX12_dealt 122 = .ok (.iload_n 2, 1) := by decide +kernel
theorem dX12_dealt_123 : decode cX12_dealt 123 = .ok (.ishl, 1) := by decide +kernel
theorem dX12_dealt_124 : decode cX12_dealt 124 = .ok (.if_icmp .ge 85, 3) := by decide +kernel
theorem dX12_dealt_209 : decode cX12_dealt 209 = .ok (.iload_n 3, 1) := by decide +kernel
theorem dX12_dealt_210 : decode cX12_dealt 210 = .ok (.ireturn, 1) := by decide +kernel
theorem dX12_dealt_127 : decode cX12_dealt 127 = .ok (.iload 4, 2) := by decide +kernel
theorem dX12_dealt_129 : decode cX12_dealt 129 = .ok (.invokestatic 372, 3) := by decide +kernel
theorem dX12_dealt_132 : decode cX12_dealt 132 = .ok (.iload_n 3, 1) := by decide +kernel
theorem dX12_dealt_133 : decode cX12_dealt 133 = .ok (.invokestatic 372, 3) := by decide +kernel
theorem dX12_dealt_136 : decode cX12_dealt 136 = .ok (.if_icmp .gt 6, 3) := by decide +kernel
theorem dX12_dealt_142 : decode cX12_dealt 142 = .ok (.iconst 1, 1) := by decide +kernel
theorem dX12_dealt_143 : decode cX12_dealt 143 = .ok (.istore 5, 2) := by decide +kernel
theorem dX12_dealt_145 : decode cX12_dealt 145 = .ok (.iconst 0, 1) := by decide +kernel
theorem dX12_dealt_146 : decode cX12_dealt 146 = .ok (.istore 6, 2) := by decide +kernel
theorem dX12_dealt_148 : decode cX12_dealt 148 = .ok (.iload 6, 2) := by decide +kernel
theorem dX12_dealt_150 : decode cX12_dealt 150 = .ok (.iload_n 2, 1) := by decide +kernel
theorem dX12_dealt_151 : decode cX12_dealt 151 = .ok (.if_icmp .ge 44, 3) := by decide +kernel
theorem dX12_dealt_195 : decode cX12_dealt 195 = .ok (.iload 5, 2) := by decide +kernel
theorem dX12_dealt_197 : decode cX12_dealt 197 = .ok (.ifCond .eq 6, 3) := by decide +kernel
theorem dX12_dealt_203 : decode cX12_dealt 203 = .ok (.iinc 4 1, 3) := by decide +kernel
theorem dX12_dealt_206 : decode cX12_dealt 206 = .ok (.goto (-87), 3) := by decide +kernel
theorem dX12_dealt_200 : decode cX12_dealt 200 = .ok (.iload 4, 2) := by decide +kernel
theorem dX12_dealt_202 : decode cX12_dealt 202 = .ok (.istore_n 3, 1) := by decide +kernel
theorem dX12_dealt_154 : decode cX12_dealt 154 = .ok (.iload 5, 2) := by decide +kernel
theorem dX12_dealt_156 : decode cX12_dealt 156 = .ok (.ifCond .eq 39, 3) := by decide +kernel
theorem dX12_dealt_159 : decode cX12_dealt 159 = .ok (.iload 4, 2) := by decide +kernel
theorem dX12_dealt_161 : decode cX12_dealt 161 = .ok (.iload 6, 2) := by decide +kernel
theorem dX12_dealt_163 : decode cX12_dealt 163 = .ok (.ishr, 1) := by decide +kernel
theorem dX12_dealt_164 : decode cX12_dealt 164 = .ok (.iconst 1, 1) := by decide +kernel
theorem dX12_dealt_165 : decode cX12_dealt 165 = .ok (.iand, 1) := by decide +kernel
theorem dX12_dealt_166 : decode cX12_dealt 166 = .ok (.ifCond .eq 16, 3) := by decide +kernel
theorem dX12_dealt_182 : decode cX12_dealt 182 = .ok (.iconst 1, 1) := by decide +kernel
theorem dX12_dealt_183 : decode cX12_dealt 183 = .ok (.goto 4, 3) := by decide +kernel
theorem dX12_dealt_187 : decode cX12_dealt 187 = .ok (.istore 5, 2) := by decide +kernel
theorem dX12_dealt_189 : decode cX12_dealt 189 = .ok (.iinc 6 1, 3) := by decide +kernel
theorem dX12_dealt_192 : decode cX12_dealt 192 = .ok (.goto (-44), 3) := by decide +kernel
theorem dX12_dealt_169 : decode cX12_dealt 169 = .ok (.aload_n 0, 1) := by decide +kernel
theorem dX12_dealt_170 : decode cX12_dealt 170 = .ok (.getfield 83, 3) := by decide +kernel
theorem dX12_dealt_173 : decode cX12_dealt 173 = .ok (.iload 6, 2) := by decide +kernel
theorem dX12_dealt_175 : decode cX12_dealt 175 = .ok (.iaload, 1) := by decide +kernel
theorem dX12_dealt_176 : decode cX12_dealt 176 = .ok (.iload 4, 2) := by decide +kernel
theorem dX12_dealt_178 : decode cX12_dealt 178 = .ok (.iand, 1) := by decide +kernel
theorem dX12_dealt_179 : decode cX12_dealt 179 = .ok (.ifCond .ne 7, 3) := by decide +kernel
theorem dX12_dealt_186 : decode cX12_dealt 186 = .ok (.iconst 0, 1) := by decide +kernel
theorem dX12_dealt_139 : decode cX12_dealt 139 = .ok (.goto 64, 3) := by decide +kernel
theorem dX12_dealt_29 : decode cX12_dealt 29 = .ok (.aload_n 0, 1) := by decide +kernel
theorem dX12_dealt_30 : decode cX12_dealt 30 = .ok (.getfield 83, 3) := by decide +kernel
theorem dX12_dealt_33 : decode cX12_dealt 33 = .ok (.iload_n 3, 1) := by decide +kernel
theorem dX12_dealt_34 : decode cX12_dealt 34 = .ok (.iconst 0, 1) := by decide +kernel
theorem dX12_dealt_35 : decode cX12_dealt 35 = .ok (.iastore, 1) := by decide +kernel
theorem dX12_dealt_36 : decode cX12_dealt 36 = .ok (.iconst 0, 1) := by decide +kernel
theorem dX12_dealt_37 : decode cX12_dealt 37 = .ok (.istore 4, 2) := by decide +kernel
theorem dX12_dealt_39 : decode cX12_dealt 39 = .ok (.iload 4, 2) := by decide +kernel
theorem dX12_dealt_41 : decode cX12_dealt 41 = .ok (.iload_n 2, 1) := by decide +kernel
theorem dX12_dealt_42 : decode cX12_dealt 42 = .ok (.if_icmp .ge 66, 3) := by decide +kernel
theorem dX12_dealt_108 : decode cX12_dealt 108 = .ok (.iinc 3 1, 3) := by decide +kernel
theorem dX12_dealt_111 : decode cX12_dealt 111 = .ok (.goto (-87), 3) := by decide +kernel
theorem dX12_dealt_45 : decode cX12_dealt 45 = .ok (.iload_n 3, 1) := by decide +kernel
theorem dX12_dealt_46 : decode cX12_dealt 46 = .ok (.iload 4, 2) := by decide +kernel
theorem dX12_dealt_48 : decode cX12_dealt 48 = .ok (.if_icmp .eq 54, 3) := by decide +kernel
theorem dX12_dealt_102 : decode cX12_dealt 102 = .ok (.iinc 4 1, 3) := by decide +kernel
theorem dX12_dealt_105 : decode cX12_dealt 105 = .ok (.goto (-66), 3) := by decide +kernel
theorem dX12_dealt_51 : decode cX12_dealt 51 = .ok (.aload_n 0, 1) := by decide +kernel
theorem dX12_dealt_52 : decode cX12_dealt 52 = .ok (.aload_n 0, 1) := by decide +kernel
theorem dX12_dealt_53 : decode cX12_dealt 53 = .ok (.iload_n 3, 1) := by decide +kernel
theorem dX12_dealt_54 : decode cX12_dealt 54 = .ok (.invokevirtual 341, 3) := by decide +kernel
theorem dX12_dealt_57 : decode cX12_dealt 57 = .ok (.aload_n 0, 1) := by decide +kernel
theorem dX12_dealt_58 : decode cX12_dealt 58 = .ok (.iload 4, 2) := by decide +kernel
theorem dX12_dealt_60 : decode cX12_dealt 60 = .ok (.invokevirtual 341, 3) := by decide +kernel
theorem dX12_dealt_63 : decode cX12_dealt 63 = .ok (.iload_n 1, 1) := by decide +kernel
theorem dX12_dealt_64 : decode cX12_dealt 64 = .ok (.invokevirtual 351, 3) := by decide +kernel
theorem dX12_dealt_67 : decode cX12_dealt 67 = .ok (.ifCond .ne 22, 3) := by decide +kernel
theorem dX12_dealt_89 : decode cX12_dealt 89 = .ok (.aload_n 0, 1) := by decide +kernel
theorem dX12_dealt_90 : decode cX12_dealt 90 = .ok (.getfield 83, 3) := by decide +kernel
theorem dX12_dealt_93 : decode cX12_dealt 93 = .ok (.iload_n 3, 1) := by decide +kernel
theorem dX12_dealt_94 : decode cX12_dealt 94 = .ok (.dup2, 1) := by decide +kernel
theorem dX12_dealt_95 : decode cX12_dealt 95 = .ok (.iaload, 1) := by decide +kernel
theorem dX12_dealt_96 : decode cX12_dealt 96 = .ok (.iconst 1, 1) := by decide +kernel
theorem dX12_dealt_97 : decode cX12_dealt 97 = .ok (.iload 4, 2) := by decide +kernel
theorem dX12_dealt_99 : decode cX12_dealt 99 = .ok (.ishl, 1) := by decide +kernel
theorem dX12_dealt_100 : decode cX12_dealt 100 = .ok (.ior, 1) := by decide +kernel
theorem dX12_dealt_101 : decode cX12_dealt 101 = .ok (.iastore, 1) := by decide +kernel
theorem dX12_dealt_70 : decode cX12_dealt 70 = .ok (.aload_n 0, 1) := by decide +kernel
theorem dX12_dealt_71 : decode cX12_dealt 71 = .ok (.aload_n 0, 1) := by decide +kernel
theorem dX12_dealt_72 : decode cX12_dealt 72 = .ok (.iload 4, 2) := by decide +kernel
theorem dX12_dealt_74 : decode cX12_dealt 74 = .ok (.invokevirtual 341, 3) := by decide +kernel
theorem dX12_dealt_77 : decode cX12_dealt 77 = .ok (.aload_n 0, 1) := by decide +kernel
theorem dX12_dealt_78 : decode cX12_dealt 78 = .ok (.iload_n 3, 1) := by decide +kernel
theorem dX12_dealt_79 : decode cX12_dealt 79 = .ok (.invokevirtual 341, 3) := by decide +kernel
theorem dX12_dealt_82 : decode cX12_dealt 82 = .ok (.iload_n 1, 1) := by decide +kernel
theorem dX12_dealt_83 : decode cX12_dealt 83 = .ok (.invokevirtual 351, 3) := by decide +kernel
theorem dX12_dealt_86 : decode cX12_dealt 86 = .ok (.ifCond .eq 16, 3) := by decide +kernel
theorem dX12_dealt_10 : decode cX12_dealt 10 = .ok (.iconst (-1), 1) := by decide +kernel
theorem dX12_dealt_11 : decode cX12_dealt 11 = .ok (.ireturn, 1) := by decide +kernel
theorem dX12_keepTunes_0 : decode cX12_keepTunes 0 = .ok (.aload_n 0, 1) := by decide +kernel
theorem dX12_keepTunes_1 : decode cX12_keepTunes 1 = .ok (.iconst 0, 1) := by decide +kernel
theorem dX12_keepTunes_2 : decode cX12_keepTunes 2 = .ok (.putfield 378, 3) := by decide +kernel
theorem dX12_keepTunes_5 : decode cX12_keepTunes 5 = .ok (.iconst 0, 1) := by decide +kernel
theorem dX12_keepTunes_6 : decode cX12_keepTunes 6 = .ok (.istore_n 2, 1) := by decide +kernel
theorem dX12_keepTunes_7 : decode cX12_keepTunes 7 = .ok (.iload_n 2, 1) := by decide +kernel
theorem dX12_keepTunes_8 : decode cX12_keepTunes 8 = .ok (.aload_n 0, 1) := by decide +kernel
theorem dX12_keepTunes_9 : decode cX12_keepTunes 9 = .ok (.getfield 20, 3) := by decide +kernel
theorem dX12_keepTunes_12 : decode cX12_keepTunes 12 = .ok (.aload_n 0, 1) := by decide +kernel
theorem dX12_keepTunes_13 : decode cX12_keepTunes 13 = .ok (.getfield 227, 3) := by decide +kernel
theorem dX12_keepTunes_16 : decode cX12_keepTunes 16 = .ok (.iaload, 1) := by decide +kernel
theorem dX12_keepTunes_17 : decode cX12_keepTunes 17 = .ok (.if_icmp .ge 118, 3) := by decide +kernel
theorem dX12_keepTunes_135 : decode cX12_keepTunes 135 = .ok (.iconst 0, 1) := by decide +kernel
theorem dX12_keepTunes_136 : decode cX12_keepTunes 136 = .ok (.istore_n 2, 1) := by decide +kernel
theorem dX12_keepTunes_137 : decode cX12_keepTunes 137 = .ok (.iload_n 2, 1) := by decide +kernel
theorem dX12_keepTunes_138 : decode cX12_keepTunes 138 = .ok (.aload_n 0, 1) := by decide +kernel
theorem dX12_keepTunes_139 : decode cX12_keepTunes 139 = .ok (.getfield 378, 3) := by decide +kernel
theorem dX12_keepTunes_142 : decode cX12_keepTunes 142 = .ok (.if_icmp .ge 61, 3) := by decide +kernel
theorem dX12_keepTunes_203 : decode cX12_keepTunes 203 = .ok (.return_, 1) := by decide +kernel
theorem dX12_keepTunes_145 : decode cX12_keepTunes 145 = .ok (.iconst 0, 1) := by decide +kernel
theorem dX12_keepTunes_146 : decode cX12_keepTunes 146 = .ok (.istore_n 3, 1) := by decide +kernel
theorem dX12_keepTunes_147 : decode cX12_keepTunes 147 = .ok (.iload_n 3, 1) := by decide +kernel
theorem dX12_keepTunes_148 : decode cX12_keepTunes 148 = .ok (.aload_n 0, 1) := by decide +kernel
theorem dX12_keepTunes_149 : decode cX12_keepTunes 149 = .ok (.getfield 378, 3) := by decide +kernel
theorem dX12_keepTunes_152 : decode cX12_keepTunes 152 = .ok (.if_icmp .ge 45, 3) := by decide +kernel
theorem dX12_keepTunes_197 : decode cX12_keepTunes 197 = .ok (.iinc 2 1, 3) := by decide +kernel
theorem dX12_keepTunes_200 : decode cX12_keepTunes 200 = .ok (.goto (-63), 3) := by decide +kernel
theorem dX12_keepTunes_155 : decode cX12_keepTunes 155 = .ok (.aload_n 0, 1) := by decide +kernel
theorem dX12_keepTunes_156 : decode cX12_keepTunes 156 = .ok (.getfield 95, 3) := by decide +kernel
theorem dX12_keepTunes_159 : decode cX12_keepTunes 159 = .ok (.bipush 6, 2) := by decide +kernel
theorem dX12_keepTunes_161 : decode cX12_keepTunes 161 = .ok (.iload_n 2, 1) := by decide +kernel
theorem dX12_keepTunes_162 : decode cX12_keepTunes 162 = .ok (.imul, 1) := by decide +kernel
theorem dX12_keepTunes_163 : decode cX12_keepTunes 163 = .ok (.iload_n 3, 1) := by decide +kernel
theorem dX12_keepTunes_164 : decode cX12_keepTunes 164 = .ok (.iadd, 1) := by decide +kernel
theorem dX12_keepTunes_165 : decode cX12_keepTunes 165 = .ok (.iload_n 2, 1) := by decide +kernel
theorem dX12_keepTunes_166 : decode cX12_keepTunes 166 = .ok (.iload_n 3, 1) := by decide +kernel
theorem dX12_keepTunes_167 : decode cX12_keepTunes 167 = .ok (.if_icmp .ne 7, 3) := by decide +kernel
theorem dX12_keepTunes_174 : decode cX12_keepTunes 174 = .ok (.aload_n 0, 1) := by decide +kernel
theorem dX12_keepTunes_175 : decode cX12_keepTunes 175 = .ok (.aload_n 0, 1) := by decide +kernel
theorem dX12_keepTunes_176 : decode cX12_keepTunes 176 = .ok (.getfield 92, 3) := by decide +kernel
theorem dX12_keepTunes_179 : decode cX12_keepTunes 179 = .ok (.iload_n 2, 1) := by decide +kernel
theorem dX12_keepTunes_180 : decode cX12_keepTunes 180 = .ok (.iaload, 1) := by decide +kernel
theorem dX12_keepTunes_181 : decode cX12_keepTunes 181 = .ok (.aload_n 0, 1) := by decide +kernel
theorem dX12_keepTunes_182 : decode cX12_keepTunes 182 = .ok (.getfield 92, 3) := by decide +kernel
theorem dX12_keepTunes_185 : decode cX12_keepTunes 185 = .ok (.iload_n 3, 1) := by decide +kernel
theorem dX12_keepTunes_186 : decode cX12_keepTunes 186 = .ok (.iaload, 1) := by decide +kernel
theorem dX12_keepTunes_187 : decode cX12_keepTunes 187 = .ok (.invokevirtual 385, 3) := by decide +kernel
theorem dX12_keepTunes_190 : decode cX12_keepTunes 190 = .ok (.iastore, 1) := by decide +kernel
theorem dX12_keepTunes_191 : decode cX12_keepTunes 191 = .ok (.iinc 3 1, 3) := by decide +kernel
theorem dX12_keepTunes_194 : decode cX12_keepTunes 194 = .ok (.goto (-47), 3) := by decide +kernel
theorem dX12_keepTunes_170 : decode cX12_keepTunes 170 = .ok (.iconst 0, 1) := by decide +kernel
theorem dX12_keepTunes_171 : decode cX12_keepTunes 171 = .ok (.goto 19, 3) := by decide +kernel
theorem dX12_keepTunes_20 : decode cX12_keepTunes 20 = .ok (.iload_n 1, 1) := by decide +kernel
theorem dX12_keepTunes_21 : decode cX12_keepTunes 21 = .ok (.iload_n 2, 1) := by decide +kernel
theorem dX12_keepTunes_22 : decode cX12_keepTunes 22 = .ok (.ishr, 1) := by decide +kernel
theorem dX12_keepTunes_23 : decode cX12_keepTunes 23 = .ok (.iconst 1, 1) := by decide +kernel
theorem dX12_keepTunes_24 : decode cX12_keepTunes 24 = .ok (.iand, 1) := by decide +kernel
theorem dX12_keepTunes_25 : decode cX12_keepTunes 25 = .ok (.iconst 1, 1) := by decide +kernel
theorem dX12_keepTunes_26 : decode cX12_keepTunes 26 = .ok (.if_icmp .ne 7, 3) := by decide +kernel
theorem dX12_keepTunes_33 : decode cX12_keepTunes 33 = .ok (.iconst 0, 1) := by decide +kernel
theorem dX12_keepTunes_34 : decode cX12_keepTunes 34 = .ok (.istore_n 3, 1) := by decide +kernel
theorem dX12_keepTunes_35 : decode cX12_keepTunes 35 = .ok (.iconst 0, 1) := by decide +kernel
theorem dX12_keepTunes_36 : decode cX12_keepTunes 36 = .ok (.istore 4, 2) := by decide +kernel
theorem dX12_keepTunes_38 : decode cX12_keepTunes 38 = .ok (.iload 4, 2) := by decide +kernel
theorem dX12_keepTunes_40 : decode cX12_keepTunes 40 = .ok (.aload_n 0, 1) := by decide +kernel
theorem dX12_keepTunes_41 : decode cX12_keepTunes 41 = .ok (.getfield 20, 3) := by decide +kernel
theorem dX12_keepTunes_44 : decode cX12_keepTunes 44 = .ok (.aload_n 0, 1) := by decide +kernel
theorem dX12_keepTunes_45 : decode cX12_keepTunes 45 = .ok (.getfield 227, 3) := by decide +kernel
theorem dX12_keepTunes_48 : decode cX12_keepTunes 48 = .ok (.iaload, 1) := by decide +kernel
theorem dX12_keepTunes_49 : decode cX12_keepTunes 49 = .ok (.if_icmp .ge 53, 3) := by decide +kernel
theorem dX12_keepTunes_102 : decode cX12_keepTunes 102 = .ok (.iload_n 3, 1) := by decide +kernel
theorem dX12_keepTunes_103 : decode cX12_keepTunes 103 = .ok (.ifCond .ne 6, 3) := by decide +kernel
theorem dX12_keepTunes_109 : decode cX12_keepTunes 109 = .ok (.aload_n 0, 1) := by decide +kernel
theorem dX12_keepTunes_110 : decode cX12_keepTunes 110 = .ok (.getfield 92, 3) := by decide +kernel
theorem dX12_keepTunes_113 : decode cX12_keepTunes 113 = .ok (.aload_n 0, 1) := by decide +kernel
theorem dX12_keepTunes_114 : decode cX12_keepTunes 114 = .ok (.getfield 378, 3) := by decide +kernel
theorem dX12_keepTunes_117 : decode cX12_keepTunes 117 = .ok (.iload_n 2, 1) := by decide +kernel
theorem dX12_keepTunes_118 : decode cX12_keepTunes 118 = .ok (.iastore, 1) := by decide +kernel
theorem dX12_keepTunes_119 : decode cX12_keepTunes 119 = .ok (.aload_n 0, 1) := by decide +kernel
theorem dX12_keepTunes_120 : decode cX12_keepTunes 120 = .ok (.dup, 1) := by decide +kernel
theorem dX12_keepTunes_121 : decode cX12_keepTunes 121 = .ok (.getfield 378, 3) := by decide +kernel
theorem dX12_keepTunes_124 : decode cX12_keepTunes 124 = .ok (.iconst 1, 1) := by decide +kernel
theorem dX12_keepTunes_125 : decode cX12_keepTunes 125 = .ok (.iadd, 1) := by decide +kernel
theorem dX12_keepTunes_126 : decode cX12_keepTunes 126 = .ok (.putfield 378, 3) := by decide +kernel
theorem dX12_keepTunes_129 : decode cX12_keepTunes 129 = .ok (.iinc 2 1, 3) := by decide +kernel
theorem dX12_keepTunes_132 : decode cX12_keepTunes 132 = .ok (.goto (-125), 3) := by decide +kernel
theorem dX12_keepTunes_106 : decode cX12_keepTunes 106 = .ok (.goto 23, 3) := by decide +kernel
theorem dX12_keepTunes_52 : decode cX12_keepTunes 52 = .ok (.iload 4, 2) := by decide +kernel
theorem dX12_keepTunes_54 : decode cX12_keepTunes 54 = .ok (.iload_n 2, 1) := by decide +kernel
theorem dX12_keepTunes_55 : decode cX12_keepTunes 55 = .ok (.if_icmp .eq 41, 3) := by decide +kernel
theorem dX12_keepTunes_96 : decode cX12_keepTunes 96 = .ok (.iinc 4 1, 3) := by decide +kernel
theorem dX12_keepTunes_99 : decode cX12_keepTunes 99 = .ok (.goto (-61), 3) := by decide +kernel
theorem dX12_keepTunes_58 : decode cX12_keepTunes 58 = .ok (.iload_n 1, 1) := by decide +kernel
theorem dX12_keepTunes_59 : decode cX12_keepTunes 59 = .ok (.iload 4, 2) := by decide +kernel
theorem dX12_keepTunes_61 : decode cX12_keepTunes 61 = .ok (.ishr, 1) := by decide +kernel
theorem dX12_keepTunes_62 : decode cX12_keepTunes 62 = .ok (.iconst 1, 1) := by decide +kernel
theorem dX12_keepTunes_63 : decode cX12_keepTunes 63 = .ok (.iand, 1) := by decide +kernel
theorem dX12_keepTunes_64 : decode cX12_keepTunes 64 = .ok (.iconst 1, 1) := by decide +kernel
theorem dX12_keepTunes_65 : decode cX12_keepTunes 65 = .ok (.if_icmp .ne 31, 3) := by decide +kernel
theorem dX12_keepTunes_68 : decode cX12_keepTunes 68 = .ok (.aload_n 0, 1) := by decide +kernel
theorem dX12_keepTunes_69 : decode cX12_keepTunes 69 = .ok (.iload_n 2, 1) := by decide +kernel
theorem dX12_keepTunes_70 : decode cX12_keepTunes 70 = .ok (.iload 4, 2) := by decide +kernel
theorem dX12_keepTunes_72 : decode cX12_keepTunes 72 = .ok (.invokevirtual 381, 3) := by decide +kernel
theorem dX12_keepTunes_75 : decode cX12_keepTunes 75 = .ok (.ifCond .eq 21, 3) := by decide +kernel
theorem dX12_keepTunes_78 : decode cX12_keepTunes 78 = .ok (.aload_n 0, 1) := by decide +kernel
theorem dX12_keepTunes_79 : decode cX12_keepTunes 79 = .ok (.iload 4, 2) := by decide +kernel
theorem dX12_keepTunes_81 : decode cX12_keepTunes 81 = .ok (.iload_n 2, 1) := by decide +kernel
theorem dX12_keepTunes_82 : decode cX12_keepTunes 82 = .ok (.invokevirtual 381, 3) := by decide +kernel
theorem dX12_keepTunes_85 : decode cX12_keepTunes 85 = .ok (.ifCond .eq 9, 3) := by decide +kernel
theorem dX12_keepTunes_94 : decode cX12_keepTunes 94 = .ok (.iconst 0, 1) := by decide +kernel
theorem dX12_keepTunes_95 : decode cX12_keepTunes 95 = .ok (.istore_n 3, 1) := by decide +kernel
theorem dX12_keepTunes_88 : decode cX12_keepTunes 88 = .ok (.iload 4, 2) := by decide +kernel
theorem dX12_keepTunes_90 : decode cX12_keepTunes 90 = .ok (.iload_n 2, 1) := by decide +kernel
theorem dX12_keepTunes_91 : decode cX12_keepTunes 91 = .ok (.if_icmp .ge 5, 3) := by decide +kernel
theorem dX12_keepTunes_29 : decode cX12_keepTunes 29 = .ok (.iconst 1, 1) := by decide +kernel
theorem dX12_keepTunes_30 : decode cX12_keepTunes 30 = .ok (.goto 4, 3) := by decide +kernel
theorem dX12_nextRow_0 : decode cX12_nextRow 0 = .ok (.aload_n 0, 1) := by decide +kernel
theorem dX12_nextRow_1 : decode cX12_nextRow 1 = .ok (.getfield 378, 3) := by decide +kernel
theorem dX12_nextRow_4 : decode cX12_nextRow 4 = .ok (.iconst 2, 1) := by decide +kernel
theorem dX12_nextRow_5 : decode cX12_nextRow 5 = .ok (.isub, 1) := by decide +kernel
theorem dX12_nextRow_6 : decode cX12_nextRow 6 = .ok (.istore_n 1, 1) := by decide +kernel
theorem dX12_nextRow_7 : decode cX12_nextRow 7 = .ok (.iload_n 1, 1) := by decide +kernel
theorem dX12_nextRow_8 : decode cX12_nextRow 8 = .ok (.ifCond .lt 26, 3) := by decide +kernel
theorem dX12_nextRow_34 : decode cX12_nextRow 34 = .ok (.iload_n 1, 1) := by decide +kernel
theorem dX12_nextRow_35 : decode cX12_nextRow 35 = .ok (.ifCond .ge 5, 3) := by decide +kernel
theorem dX12_nextRow_38 : decode cX12_nextRow 38 = .ok (.iconst 0, 1) := by decide +kernel
theorem dX12_nextRow_39 : decode cX12_nextRow 39 = .ok (.ireturn, 1) := by decide +kernel
theorem dX12_nextRow_11 : decode cX12_nextRow 11 = .ok (.aload_n 0, 1) := by decide +kernel
theorem dX12_nextRow_12 : decode cX12_nextRow 12 = .ok (.getfield 89, 3) := by decide +kernel
theorem dX12_nextRow_15 : decode cX12_nextRow 15 = .ok (.iload_n 1, 1) := by decide +kernel
theorem dX12_nextRow_16 : decode cX12_nextRow 16 = .ok (.iaload, 1) := by decide +kernel
theorem dX12_nextRow_17 : decode cX12_nextRow 17 = .ok (.aload_n 0, 1) := by decide +kernel
theorem dX12_nextRow_18 : decode cX12_nextRow 18 = .ok (.getfield 89, 3) := by decide +kernel
theorem dX12_nextRow_21 : decode cX12_nextRow 21 = .ok (.iload_n 1, 1) := by decide +kernel
theorem dX12_nextRow_22 : decode cX12_nextRow 22 = .ok (.iconst 1, 1) := by decide +kernel
theorem dX12_nextRow_23 : decode cX12_nextRow 23 = .ok (.iadd, 1) := by decide +kernel
theorem dX12_nextRow_24 : decode cX12_nextRow 24 = .ok (.iaload, 1) := by decide +kernel
theorem dX12_nextRow_25 : decode cX12_nextRow 25 = .ok (.if_icmp .le 9, 3) := by decide +kernel
theorem dX12_nextRow_40 : decode cX12_nextRow 40 = .ok (.aload_n 0, 1) := by decide +kernel
theorem dX12_nextRow_41 : decode cX12_nextRow 41 = .ok (.getfield 378, 3) := by decide +kernel
theorem dX12_nextRow_44 : decode cX12_nextRow 44 = .ok (.iconst 1, 1) := by decide +kernel
theorem dX12_nextRow_45 : decode cX12_nextRow 45 = .ok (.isub, 1) := by decide +kernel
theorem dX12_nextRow_46 : decode cX12_nextRow 46 = .ok (.istore_n 2, 1) := by decide +kernel
theorem dX12_nextRow_47 : decode cX12_nextRow 47 = .ok (.aload_n 0, 1) := by decide +kernel
theorem dX12_nextRow_48 : decode cX12_nextRow 48 = .ok (.getfield 89, 3) := by decide +kernel
theorem dX12_nextRow_51 : decode cX12_nextRow 51 = .ok (.iload_n 2, 1) := by decide +kernel
theorem dX12_nextRow_52 : decode cX12_nextRow 52 = .ok (.iaload, 1) := by decide +kernel
theorem dX12_nextRow_53 : decode cX12_nextRow 53 = .ok (.aload_n 0, 1) := by decide +kernel
theorem dX12_nextRow_54 : decode cX12_nextRow 54 = .ok (.getfield 89, 3) := by decide +kernel
theorem dX12_nextRow_57 : decode cX12_nextRow 57 = .ok (.iload_n 1, 1) := by decide +kernel
theorem dX12_nextRow_58 : decode cX12_nextRow 58 = .ok (.iaload, 1) := by decide +kernel
theorem dX12_nextRow_59 : decode cX12_nextRow 59 = .ok (.if_icmp .ge 9, 3) := by decide +kernel
theorem dX12_nextRow_68 : decode cX12_nextRow 68 = .ok (.aload_n 0, 1) := by decide +kernel
theorem dX12_nextRow_69 : decode cX12_nextRow 69 = .ok (.getfield 89, 3) := by decide +kernel
theorem dX12_nextRow_72 : decode cX12_nextRow 72 = .ok (.iload_n 1, 1) := by decide +kernel
theorem dX12_nextRow_73 : decode cX12_nextRow 73 = .ok (.iaload, 1) := by decide +kernel
theorem dX12_nextRow_74 : decode cX12_nextRow 74 = .ok (.istore_n 3, 1) := by decide +kernel
theorem dX12_nextRow_75 : decode cX12_nextRow 75 = .ok (.aload_n 0, 1) := by decide +kernel
theorem dX12_nextRow_76 : decode cX12_nextRow 76 = .ok (.getfield 89, 3) := by decide +kernel
theorem dX12_nextRow_79 : decode cX12_nextRow 79 = .ok (.iload_n 1, 1) := by decide +kernel
theorem dX12_nextRow_80 : decode cX12_nextRow 80 = .ok (.aload_n 0, 1) := by decide +kernel
theorem dX12_nextRow_81 : decode cX12_nextRow 81 = .ok (.getfield 89, 3) := by decide +kernel
theorem dX12_nextRow_84 : decode cX12_nextRow 84 = .ok (.iload_n 2, 1) := by decide +kernel
theorem dX12_nextRow_85 : decode cX12_nextRow 85 = .ok (.iaload, 1) := by decide +kernel
theorem dX12_nextRow_86 : decode cX12_nextRow 86 = .ok (.iastore, 1) := by decide +kernel
theorem dX12_nextRow_87 : decode cX12_nextRow 87 = .ok (.aload_n 0, 1) := by decide +kernel
theorem dX12_nextRow_88 : decode cX12_nextRow 88 = .ok (.getfield 89, 3) := by decide +kernel
theorem dX12_nextRow_91 : decode cX12_nextRow 91 = .ok (.iload_n 2, 1) := by decide +kernel
theorem dX12_nextRow_92 : decode cX12_nextRow 92 = .ok (.iload_n 3, 1) := by decide +kernel
theorem dX12_nextRow_93 : decode cX12_nextRow 93 = .ok (.iastore, 1) := by decide +kernel
theorem dX12_nextRow_94 : decode cX12_nextRow 94 = .ok (.aload_n 0, 1) := by decide +kernel
theorem dX12_nextRow_95 : decode cX12_nextRow 95 = .ok (.getfield 378, 3) := by decide +kernel
theorem dX12_nextRow_98 : decode cX12_nextRow 98 = .ok (.iconst 1, 1) := by decide +kernel
theorem dX12_nextRow_99 : decode cX12_nextRow 99 = .ok (.isub, 1) := by decide +kernel
theorem dX12_nextRow_100 : decode cX12_nextRow 100 = .ok (.istore 4, 2) := by decide +kernel
theorem dX12_nextRow_102 : decode cX12_nextRow 102 = .ok (.iload_n 1, 1) := by decide +kernel
theorem dX12_nextRow_103 : decode cX12_nextRow 103 = .ok (.iconst 1, 1) := by decide +kernel
theorem dX12_nextRow_104 : decode cX12_nextRow 104 = .ok (.iadd, 1) := by decide +kernel
theorem dX12_nextRow_105 : decode cX12_nextRow 105 = .ok (.istore 5, 2) := by decide +kernel
theorem dX12_nextRow_107 : decode cX12_nextRow 107 = .ok (.iload 5, 2) := by decide +kernel
theorem dX12_nextRow_109 : decode cX12_nextRow 109 = .ok (.iload 4, 2) := by decide +kernel
theorem dX12_nextRow_111 : decode cX12_nextRow 111 = .ok (.if_icmp .ge 42, 3) := by decide +kernel
theorem dX12_nextRow_153 : decode cX12_nextRow 153 = .ok (.iconst 1, 1) := by decide +kernel
theorem dX12_nextRow_154 : decode cX12_nextRow 154 = .ok (.ireturn, 1) := by decide +kernel
theorem dX12_nextRow_114 : decode cX12_nextRow 114 = .ok (.aload_n 0, 1) := by decide +kernel
theorem dX12_nextRow_115 : decode cX12_nextRow 115 = .ok (.getfield 89, 3) := by decide +kernel
theorem dX12_nextRow_118 : decode cX12_nextRow 118 = .ok (.iload 5, 2) := by decide +kernel
theorem dX12_nextRow_120 : decode cX12_nextRow 120 = .ok (.iaload, 1) := by decide +kernel
theorem dX12_nextRow_121 : decode cX12_nextRow 121 = .ok (.istore_n 3, 1) := by decide +kernel
theorem dX12_nextRow_122 : decode cX12_nextRow 122 = .ok (.aload_n 0, 1) := by decide +kernel
theorem dX12_nextRow_123 : decode cX12_nextRow 123 = .ok (.getfield 89, 3) := by decide +kernel
theorem dX12_nextRow_126 : decode cX12_nextRow 126 = .ok (.iload 5, 2) := by decide +kernel
theorem dX12_nextRow_128 : decode cX12_nextRow 128 = .ok (.aload_n 0, 1) := by decide +kernel
theorem dX12_nextRow_129 : decode cX12_nextRow 129 = .ok (.getfield 89, 3) := by decide +kernel
theorem dX12_nextRow_132 : decode cX12_nextRow 132 = .ok (.iload 4, 2) := by decide +kernel
theorem dX12_nextRow_134 : decode cX12_nextRow 134 = .ok (.iaload, 1) := by decide +kernel
theorem dX12_nextRow_135 : decode cX12_nextRow 135 = .ok (.iastore, 1) := by decide +kernel
theorem dX12_nextRow_136 : decode cX12_nextRow 136 = .ok (.aload_n 0, 1) := by decide +kernel
theorem dX12_nextRow_137 : decode cX12_nextRow 137 = .ok (.getfield 89, 3) := by decide +kernel
theorem dX12_nextRow_140 : decode cX12_nextRow 140 = .ok (.iload 4, 2) := by decide +kernel
theorem dX12_nextRow_142 : decode cX12_nextRow 142 = .ok (.iload_n 3, 1) := by decide +kernel
theorem dX12_nextRow_143 : decode cX12_nextRow 143 = .ok (.iastore, 1) := by decide +kernel
theorem dX12_nextRow_144 : decode cX12_nextRow 144 = .ok (.iinc 4 (-1), 3) := by decide +kernel
theorem dX12_nextRow_147 : decode cX12_nextRow 147 = .ok (.iinc 5 1, 3) := by decide +kernel
theorem dX12_nextRow_150 : decode cX12_nextRow 150 = .ok (.goto (-43), 3) := by decide +kernel
theorem dX12_nextRow_62 : decode cX12_nextRow 62 = .ok (.iinc 2 (-1), 3) := by decide +kernel
theorem dX12_nextRow_65 : decode cX12_nextRow 65 = .ok (.goto (-18), 3) := by decide +kernel
theorem dX12_nextRow_28 : decode cX12_nextRow 28 = .ok (.iinc 1 (-1), 3) := by decide +kernel
theorem dX12_nextRow_31 : decode cX12_nextRow 31 = .ok (.goto (-24), 3) := by decide +kernel
theorem dX12_layMaster_0 : decode cX12_layMaster 0 = .ok (.aload_n 0, 1) := by decide +kernel
theorem dX12_layMaster_1 : decode cX12_layMaster 1 = .ok (.iconst (-1), 1) := by decide +kernel
theorem dX12_layMaster_2 : decode cX12_layMaster 2 = .ok (.putfield 388, 3) := by decide +kernel
theorem dX12_layMaster_5 : decode cX12_layMaster 5 = .ok (.iconst 0, 1) := by decide +kernel
theorem dX12_layMaster_6 : decode cX12_layMaster 6 = .ok (.istore_n 1, 1) := by decide +kernel
theorem dX12_layMaster_7 : decode cX12_layMaster 7 = .ok (.iload_n 1, 1) := by decide +kernel
theorem dX12_layMaster_8 : decode cX12_layMaster 8 = .ok (.aload_n 0, 1) := by decide +kernel
theorem dX12_layMaster_9 : decode cX12_layMaster 9 = .ok (.getfield 378, 3) := by decide +kernel
theorem dX12_layMaster_12 : decode cX12_layMaster 12 = .ok (.if_icmp .ge 16, 3) := by decide +kernel
theorem dX12_layMaster_28 : decode cX12_layMaster 28 = .ok (.iconst 1, 1) := by decide +kernel
theorem dX12_layMaster_29 : decode cX12_layMaster 29 = .ok (.istore_n 1, 1) := by decide +kernel
theorem dX12_layMaster_30 : decode cX12_layMaster 30 = .ok (.iload_n 1, 1) := by decide +kernel
theorem dX12_layMaster_31 : decode cX12_layMaster 31 = .ok (.ifCond .eq 136, 3) := by decide +kernel
theorem dX12_layMaster_167 : decode cX12_layMaster 167 = .ok (.return_, 1) := by decide +kernel
theorem dX12_layMaster_34 : decode cX12_layMaster 34 = .ok (.iconst 0, 1) := by decide +kernel
theorem dX12_layMaster_35 : decode cX12_layMaster 35 = .ok (.istore_n 2, 1) := by decide +kernel
theorem dX12_layMaster_36 : decode cX12_layMaster 36 = .ok (.iconst 0, 1) := by decide +kernel
theorem dX12_layMaster_37 : decode cX12_layMaster 37 = .ok (.istore_n 3, 1) := by decide +kernel
theorem dX12_layMaster_38 : decode cX12_layMaster 38 = .ok (.iload_n 3, 1) := by decide +kernel
theorem dX12_layMaster_39 : decode cX12_layMaster 39 = .ok (.aload_n 0, 1) := by decide +kernel
theorem dX12_layMaster_40 : decode cX12_layMaster 40 = .ok (.getfield 378, 3) := by decide +kernel
theorem dX12_layMaster_43 : decode cX12_layMaster 43 = .ok (.if_icmp .ge 63, 3) := by decide +kernel
theorem dX12_layMaster_106 : decode cX12_layMaster 106 = .ok (.aload_n 0, 1) := by decide +kernel
theorem dX12_layMaster_107 : decode cX12_layMaster 107 = .ok (.getfield 388, 3) := by decide +kernel
theorem dX12_layMaster_110 : decode cX12_layMaster 110 = .ok (.ifCond .lt 11, 3) := by decide +kernel
theorem dX12_layMaster_121 : decode cX12_layMaster 121 = .ok (.aload_n 0, 1) := by decide +kernel
theorem dX12_layMaster_122 : decode cX12_layMaster 122 = .ok (.iload_n 2, 1) := by decide +kernel
theorem dX12_layMaster_123 : decode cX12_layMaster 123 = .ok (.putfield 388, 3) := by decide +kernel
theorem dX12_layMaster_126 : decode cX12_layMaster 126 = .ok (.iconst 0, 1) := by decide +kernel
theorem dX12_layMaster_127 : decode cX12_layMaster 127 = .ok (.istore_n 3, 1) := by decide +kernel
theorem dX12_layMaster_128 : decode cX12_layMaster 128 = .ok (.iload_n 3, 1) := by decide +kernel
theorem dX12_layMaster_129 : decode cX12_layMaster 129 = .ok (.aload_n 0, 1) := by decide +kernel
theorem dX12_layMaster_130 : decode cX12_layMaster 130 = .ok (.getfield 378, 3) := by decide +kernel
theorem dX12_layMaster_133 : decode cX12_layMaster 133 = .ok (.if_icmp .ge 26, 3) := by decide +kernel
theorem dX12_layMaster_159 : decode cX12_layMaster 159 = .ok (.aload_n 0, 1) := by decide +kernel
theorem dX12_layMaster_160 : decode cX12_layMaster 160 = .ok (.invokevirtual 391, 3) := by decide +kernel
theorem dX12_layMaster_163 : decode cX12_layMaster 163 = .ok (.istore_n 1, 1) := by decide +kernel
theorem dX12_layMaster_164 : decode cX12_layMaster 164 = .ok (.goto (-134), 3) := by decide +kernel
theorem dX12_layMaster_136 : decode cX12_layMaster 136 = .ok (.aload_n 0, 1) := by decide +kernel
theorem dX12_layMaster_137 : decode cX12_layMaster 137 = .ok (.getfield 86, 3) := by decide +kernel
theorem dX12_layMaster_140 : decode cX12_layMaster 140 = .ok (.iload_n 3, 1) := by decide +kernel
theorem dX12_layMaster_141 : decode cX12_layMaster 141 = .ok (.aload_n 0, 1) := by decide +kernel
theorem dX12_layMaster_142 : decode cX12_layMaster 142 = .ok (.getfield 92, 3) := by decide +kernel
theorem dX12_layMaster_145 : decode cX12_layMaster 145 = .ok (.aload_n 0, 1) := by decide +kernel
theorem dX12_layMaster_146 : decode cX12_layMaster 146 = .ok (.getfield 89, 3) := by decide +kernel
theorem dX12_layMaster_149 : decode cX12_layMaster 149 = .ok (.iload_n 3, 1) := by decide +kernel
theorem dX12_layMaster_150 : decode cX12_layMaster 150 = .ok (.iaload, 1) := by decide +kernel
theorem dX12_layMaster_151 : decode cX12_layMaster 151 = .ok (.iaload, 1) := by decide +kernel
theorem dX12_layMaster_152 : decode cX12_layMaster 152 = .ok (.iastore, 1) := by decide +kernel
theorem dX12_layMaster_153 : decode cX12_layMaster 153 = .ok (.iinc 3 1, 3) := by decide +kernel
theorem dX12_layMaster_156 : decode cX12_layMaster 156 = .ok (.goto (-28), 3) := by decide +kernel
theorem dX12_layMaster_113 : decode cX12_layMaster 113 = .ok (.iload_n 2, 1) := by decide +kernel
theorem dX12_layMaster_114 : decode cX12_layMaster 114 = .ok (.aload_n 0, 1) := by decide +kernel
theorem dX12_layMaster_115 : decode cX12_layMaster 115 = .ok (.getfield 388, 3) := by decide +kernel
theorem dX12_layMaster_118 : decode cX12_layMaster 118 = .ok (.if_icmp .ge 41, 3) := by decide +kernel
theorem dX12_layMaster_46 : decode cX12_layMaster 46 = .ok (.iload_n 2, 1) := by decide +kernel
theorem dX12_layMaster_47 : decode cX12_layMaster 47 = .ok (.aload_n 0, 1) := by decide +kernel
theorem dX12_layMaster_48 : decode cX12_layMaster 48 = .ok (.aload_n 0, 1) := by decide +kernel
theorem dX12_layMaster_49 : decode cX12_layMaster 49 = .ok (.aload_n 0, 1) := by decide +kernel
theorem dX12_layMaster_50 : decode cX12_layMaster 50 = .ok (.getfield 92, 3) := by decide +kernel
theorem dX12_layMaster_53 : decode cX12_layMaster 53 = .ok (.aload_n 0, 1) := by decide +kernel
theorem dX12_layMaster_54 : decode cX12_layMaster 54 = .ok (.getfield 89, 3) := by decide +kernel
theorem dX12_layMaster_57 : decode cX12_layMaster 57 = .ok (.iload_n 3, 1) := by decide +kernel
theorem dX12_layMaster_58 : decode cX12_layMaster 58 = .ok (.iaload, 1) := by decide +kernel
theorem dX12_layMaster_59 : decode cX12_layMaster 59 = .ok (.iaload, 1) := by decide +kernel
theorem dX12_layMaster_60 : decode cX12_layMaster 60 = .ok (.invokevirtual 341, 3) := by decide +kernel
theorem dX12_layMaster_63 : decode cX12_layMaster 63 = .ok (.invokevirtual 315, 3) := by decide +kernel
theorem dX12_layMaster_66 : decode cX12_layMaster 66 = .ok (.iload_n 3, 1) := by decide +kernel
theorem dX12_layMaster_67 : decode cX12_layMaster 67 = .ok (.ifCond .le 29, 3) := by decide +kernel
theorem dX12_layMaster_96 : decode cX12_layMaster 96 = .ok (.iconst 0, 1) := by decide +kernel
theorem dX12_layMaster_97 : decode cX12_layMaster 97 = .ok (.isub, 1) := by decide +kernel
theorem dX12_layMaster_98 : decode cX12_layMaster 98 = .ok (.iadd, 1) := by decide +kernel
theorem dX12_layMaster_99 : decode cX12_layMaster 99 = .ok (.istore_n 2, 1) := by decide +kernel
theorem dX12_layMaster_100 : decode cX12_layMaster 100 = .ok (.iinc 3 1, 3) := by decide +kernel
theorem dX12_layMaster_103 : decode cX12_layMaster 103 = .ok (.goto (-65), 3) := by decide +kernel
theorem dX12_layMaster_70 : decode cX12_layMaster 70 = .ok (.aload_n 0, 1) := by decide +kernel
theorem dX12_layMaster_71 : decode cX12_layMaster 71 = .ok (.getfield 95, 3) := by decide +kernel
theorem dX12_layMaster_74 : decode cX12_layMaster 74 = .ok (.bipush 6, 2) := by decide +kernel
theorem dX12_layMaster_76 : decode cX12_layMaster 76 = .ok (.aload_n 0, 1) := by decide +kernel
theorem dX12_layMaster_77 : decode cX12_layMaster 77 = .ok (.getfield 89, 3) := by decide +kernel
theorem dX12_layMaster_80 : decode cX12_layMaster 80 = .ok (.iload_n 3, 1) := by decide +kernel
theorem dX12_layMaster_81 : decode cX12_layMaster 81 = .ok (.iconst 1, 1) := by decide +kernel
theorem dX12_layMaster_82 : decode cX12_layMaster 82 = .ok (.isub, 1) := by decide +kernel
theorem dX12_layMaster_83 : decode cX12_layMaster 83 = .ok (.iaload, 1) := by decide +kernel
theorem dX12_layMaster_84 : decode cX12_layMaster 84 = .ok (.imul, 1) := by decide +kernel
theorem dX12_layMaster_85 : decode cX12_layMaster 85 = .ok (.aload_n 0, 1) := by decide +kernel
theorem dX12_layMaster_86 : decode cX12_layMaster 86 = .ok (.getfield 89, 3) := by decide +kernel
theorem dX12_layMaster_89 : decode cX12_layMaster 89 = .ok (.iload_n 3, 1) := by decide +kernel
theorem dX12_layMaster_90 : decode cX12_layMaster 90 = .ok (.iaload, 1) := by decide +kernel
theorem dX12_layMaster_91 : decode cX12_layMaster 91 = .ok (.iadd, 1) := by decide +kernel
theorem dX12_layMaster_92 : decode cX12_layMaster 92 = .ok (.iaload, 1) := by decide +kernel
theorem dX12_layMaster_93 : decode cX12_layMaster 93 = .ok (.goto 4, 3) := by decide +kernel
theorem dX12_layMaster_15 : decode cX12_layMaster 15 = .ok (.aload_n 0, 1) := by decide +kernel
theorem dX12_layMaster_16 : decode cX12_layMaster 16 = .ok (.getfield 89, 3) := by decide +kernel
theorem dX12_layMaster_19 : decode cX12_layMaster 19 = .ok (.iload_n 1, 1) := by decide +kernel
theorem dX12_layMaster_20 : decode cX12_layMaster 20 = .ok (.iload_n 1, 1) := by decide +kernel
theorem dX12_layMaster_21 : decode cX12_layMaster 21 = .ok (.iastore, 1) := by decide +kernel
theorem dX12_layMaster_22 : decode cX12_layMaster 22 = .ok (.iinc 1 1, 3) := by decide +kernel
theorem dX12_layMaster_25 : decode cX12_layMaster 25 = .ok (.goto (-18), 3) := by decide +kernel
theorem dX12_master_0 : decode cX12_master 0 = .ok (.iload_n 1, 1) := by decide +kernel
theorem dX12_master_1 : decode cX12_master 1 = .ok (.ifCond .lt 28, 3) := by decide +kernel
theorem dX12_master_29 : decode cX12_master 29 = .ok (.iconst (-1), 1) := by decide +kernel
theorem dX12_master_30 : decode cX12_master 30 = .ok (.ireturn, 1) := by decide +kernel
theorem dX12_master_4 : decode cX12_master 4 = .ok (.iload_n 1, 1) := by decide +kernel
theorem dX12_master_5 : decode cX12_master 5 = .ok (.iconst 1, 1) := by decide +kernel
theorem dX12_master_6 : decode cX12_master 6 = .ok (.aload_n 0, 1) := by decide +kernel
theorem dX12_master_7 : decode cX12_master 7 = .ok (.getfield 20, 3) := by decide +kernel
theorem dX12_master_10 : decode cX12_master 10 = .ok (.aload_n 0, 1) := by decide +kernel
theorem dX12_master_11 : decode cX12_master 11 = .ok (.getfield 227, 3) := by decide +kernel
theorem dX12_master_14 : decode cX12_master 14 = .ok (.iaload, 1) := by decide +kernel
theorem dX12_master_15 : decode cX12_master 15 = .ok (.ishl, 1) := by decide +kernel
theorem dX12_master_16 : decode cX12_master 16 = .ok (.if_icmp .ge 13, 3) := by decide +kernel
theorem dX12_master_19 : decode cX12_master 19 = .ok (.iload_n 2, 1) := by decide +kernel
theorem dX12_master_20 : decode cX12_master 20 = .ok (.iconst 0, 1) := by decide +kernel
theorem dX12_master_21 : decode cX12_master 21 = .ok (.bipush 6, 2) := by decide +kernel
theorem dX12_master_23 : decode cX12_master 23 = .ok (.invokestatic 311, 3) := by decide +kernel
theorem dX12_master_26 : decode cX12_master 26 = .ok (.ifCond .ne 5, 3) := by decide +kernel
theorem dX12_master_31 : decode cX12_master 31 = .ok (.iload_n 1, 1) := by decide +kernel
theorem dX12_master_32 : decode cX12_master 32 = .ok (.invokestatic 372, 3) := by decide +kernel
theorem dX12_master_35 : decode cX12_master 35 = .ok (.bipush 6, 2) := by decide +kernel
theorem dX12_master_37 : decode cX12_master 37 = .ok (.if_icmp .le 6, 3) := by decide +kernel
theorem dX12_master_43 : decode cX12_master 43 = .ok (.aload_n 0, 1) := by decide +kernel
theorem dX12_master_44 : decode cX12_master 44 = .ok (.iload_n 1, 1) := by decide +kernel
theorem dX12_master_45 : decode cX12_master 45 = .ok (.invokevirtual 394, 3) := by decide +kernel
theorem dX12_master_48 : decode cX12_master 48 = .ok (.aload_n 0, 1) := by decide +kernel
theorem dX12_master_49 : decode cX12_master 49 = .ok (.invokevirtual 398, 3) := by decide +kernel
theorem dX12_master_52 : decode cX12_master 52 = .ok (.iload_n 2, 1) := by decide +kernel
theorem dX12_master_53 : decode cX12_master 53 = .ok (.ifCond .ne 10, 3) := by decide +kernel
theorem dX12_master_63 : decode cX12_master 63 = .ok (.iload_n 2, 1) := by decide +kernel
theorem dX12_master_64 : decode cX12_master 64 = .ok (.aload_n 0, 1) := by decide +kernel
theorem dX12_master_65 : decode cX12_master 65 = .ok (.getfield 378, 3) := by decide +kernel
theorem dX12_master_68 : decode cX12_master 68 = .ok (.if_icmp .gt 14, 3) := by decide +kernel
theorem dX12_master_82 : decode cX12_master 82 = .ok (.iconst (-1), 1) := by decide +kernel
theorem dX12_master_83 : decode cX12_master 83 = .ok (.ireturn, 1) := by decide +kernel
theorem dX12_master_71 : decode cX12_master 71 = .ok (.aload_n 0, 1) := by decide +kernel
theorem dX12_master_72 : decode cX12_master 72 = .ok (.getfield 86, 3) := by decide +kernel
theorem dX12_master_75 : decode cX12_master 75 = .ok (.iload_n 2, 1) := by decide +kernel
theorem dX12_master_76 : decode cX12_master 76 = .ok (.iconst 1, 1) := by decide +kernel
theorem dX12_master_77 : decode cX12_master 77 = .ok (.isub, 1) := by decide +kernel
theorem dX12_master_78 : decode cX12_master 78 = .ok (.iaload, 1) := by decide +kernel
theorem dX12_master_79 : decode cX12_master 79 = .ok (.goto 4, 3) := by decide +kernel
theorem dX12_master_56 : decode cX12_master 56 = .ok (.aload_n 0, 1) := by decide +kernel
theorem dX12_master_57 : decode cX12_master 57 = .ok (.getfield 388, 3) := by decide +kernel
theorem dX12_master_60 : decode cX12_master 60 = .ok (.goto 23, 3) := by decide +kernel
theorem dX12_master_40 : decode cX12_master 40 = .ok (.bipush (-2), 2) := by decide +kernel
theorem dX12_master_42 : decode cX12_master 42 = .ok (.ireturn, 1) := by decide +kernel
theorem dX12_highAt_0 : decode cX12_highAt 0 = .ok (.iconst 0, 1) := by decide +kernel
theorem dX12_highAt_1 : decode cX12_highAt 1 = .ok (.istore_n 3, 1) := by decide +kernel
theorem dX12_highAt_2 : decode cX12_highAt 2 = .ok (.iload_n 2, 1) := by decide +kernel
theorem dX12_highAt_3 : decode cX12_highAt 3 = .ok (.istore 4, 2) := by decide +kernel
theorem dX12_highAt_5 : decode cX12_highAt 5 = .ok (.iload 4, 2) := by decide +kernel
theorem dX12_highAt_7 : decode cX12_highAt 7 = .ok (.aload_n 0, 1) := by decide +kernel
theorem dX12_highAt_8 : decode cX12_highAt 8 = .ok (.getfield 39, 3) := by decide +kernel
theorem dX12_highAt_11 : decode cX12_highAt 11 = .ok (.bipush 40, 2) := by decide +kernel
theorem dX12_highAt_13 : decode cX12_highAt 13 = .ok (.iload_n 1, 1) := by decide +kernel
theorem dX12_highAt_14 : decode cX12_highAt 14 = .ok (.imul, 1) := by decide +kernel
theorem dX12_highAt_15 : decode cX12_highAt 15 = .ok (.iload_n 3, 1) := by decide +kernel
theorem dX12_highAt_16 : decode cX12_highAt 16 = .ok (.iadd, 1) := by decide +kernel
theorem dX12_highAt_17 : decode cX12_highAt 17 = .ok (.iaload, 1) := by decide +kernel
theorem dX12_highAt_18 : decode cX12_highAt 18 = .ok (.if_icmp .lt 25, 3) := by decide +kernel
theorem dX12_highAt_43 : decode cX12_highAt 43 = .ok (.aload_n 0, 1) := by decide +kernel
theorem dX12_highAt_44 : decode cX12_highAt 44 = .ok (.getfield 36, 3) := by decide +kernel
theorem dX12_highAt_47 : decode cX12_highAt 47 = .ok (.bipush 40, 2) := by decide +kernel
theorem dX12_highAt_49 : decode cX12_highAt 49 = .ok (.iload_n 1, 1) := by decide +kernel
theorem dX12_highAt_50 : decode cX12_highAt 50 = .ok (.imul, 1) := by decide +kernel
theorem dX12_highAt_51 : decode cX12_highAt 51 = .ok (.iload_n 3, 1) := by decide +kernel
theorem dX12_highAt_52 : decode cX12_highAt 52 = .ok (.iadd, 1) := by decide +kernel
theorem dX12_highAt_53 : decode cX12_highAt 53 = .ok (.iaload, 1) := by decide +kernel
theorem dX12_highAt_54 : decode cX12_highAt 54 = .ok (.ireturn, 1) := by decide +kernel
theorem dX12_highAt_21 : decode cX12_highAt 21 = .ok (.iload 4, 2) := by decide +kernel
theorem dX12_highAt_23 : decode cX12_highAt 23 = .ok (.aload_n 0, 1) := by decide +kernel
theorem dX12_highAt_24 : decode cX12_highAt 24 = .ok (.getfield 39, 3) := by decide +kernel
theorem dX12_highAt_27 : decode cX12_highAt 27 = .ok (.bipush 40, 2) := by decide +kernel
theorem dX12_highAt_29 : decode cX12_highAt 29 = .ok (.iload_n 1, 1) := by decide +kernel
theorem dX12_highAt_30 : decode cX12_highAt 30 = .ok (.imul, 1) := by decide +kernel
theorem dX12_highAt_31 : decode cX12_highAt 31 = .ok (.iload_n 3, 1) := by decide +kernel
theorem dX12_highAt_32 : decode cX12_highAt 32 = .ok (.iadd, 1) := by decide +kernel
theorem dX12_highAt_33 : decode cX12_highAt 33 = .ok (.iaload, 1) := by decide +kernel
theorem dX12_highAt_34 : decode cX12_highAt 34 = .ok (.isub, 1) := by decide +kernel
theorem dX12_highAt_35 : decode cX12_highAt 35 = .ok (.istore 4, 2) := by decide +kernel
theorem dX12_highAt_37 : decode cX12_highAt 37 = .ok (.iinc 3 1, 3) := by decide +kernel
theorem dX12_highAt_40 : decode cX12_highAt 40 = .ok (.goto (-35), 3) := by decide +kernel
theorem dX12_roundOf_0 : decode cX12_roundOf 0 = .ok (.iconst 0, 1) := by decide +kernel
theorem dX12_roundOf_1 : decode cX12_roundOf 1 = .ok (.istore_n 3, 1) := by decide +kernel
theorem dX12_roundOf_2 : decode cX12_roundOf 2 = .ok (.iload_n 2, 1) := by decide +kernel
theorem dX12_roundOf_3 : decode cX12_roundOf 3 = .ok (.istore 4, 2) := by decide +kernel
theorem dX12_roundOf_5 : decode cX12_roundOf 5 = .ok (.iload 4, 2) := by decide +kernel
theorem dX12_roundOf_7 : decode cX12_roundOf 7 = .ok (.aload_n 0, 1) := by decide +kernel
theorem dX12_roundOf_8 : decode cX12_roundOf 8 = .ok (.iload_n 1, 1) := by decide +kernel
theorem dX12_roundOf_9 : decode cX12_roundOf 9 = .ok (.invokevirtual 401, 3) := by decide +kernel
theorem dX12_roundOf_12 : decode cX12_roundOf 12 = .ok (.if_icmp .ge 55, 3) := by decide +kernel
theorem dX12_roundOf_67 : decode cX12_roundOf 67 = .ok (.iload_n 3, 1) := by decide +kernel
theorem dX12_roundOf_68 : decode cX12_roundOf 68 = .ok (.ireturn, 1) := by decide +kernel
theorem dX12_roundOf_15 : decode cX12_roundOf 15 = .ok (.iload_n 3, 1) := by decide +kernel
theorem dX12_roundOf_16 : decode cX12_roundOf 16 = .ok (.aload_n 0, 1) := by decide +kernel
theorem dX12_roundOf_17 : decode cX12_roundOf 17 = .ok (.getfield 30, 3) := by decide +kernel
theorem dX12_roundOf_20 : decode cX12_roundOf 20 = .ok (.aload_n 0, 1) := by decide +kernel
theorem dX12_roundOf_21 : decode cX12_roundOf 21 = .ok (.getfield 227, 3) := by decide +kernel
theorem dX12_roundOf_24 : decode cX12_roundOf 24 = .ok (.iaload, 1) := by decide +kernel
theorem dX12_roundOf_25 : decode cX12_roundOf 25 = .ok (.aload_n 0, 1) := by decide +kernel
theorem dX12_roundOf_26 : decode cX12_roundOf 26 = .ok (.iload_n 1, 1) := by decide +kernel
theorem dX12_roundOf_27 : decode cX12_roundOf 27 = .ok (.iload 4, 2) := by decide +kernel
theorem dX12_roundOf_29 : decode cX12_roundOf 29 = .ok (.invokevirtual 404, 3) := by decide +kernel
theorem dX12_roundOf_32 : decode cX12_roundOf 32 = .ok (.aload_n 0, 1) := by decide +kernel
theorem dX12_roundOf_33 : decode cX12_roundOf 33 = .ok (.iload_n 1, 1) := by decide +kernel
theorem dX12_roundOf_34 : decode cX12_roundOf 34 = .ok (.iload 4, 2) := by decide +kernel
theorem dX12_roundOf_36 : decode cX12_roundOf 36 = .ok (.iload_n 2, 1) := by decide +kernel
theorem dX12_roundOf_37 : decode cX12_roundOf 37 = .ok (.isub, 1) := by decide +kernel
theorem dX12_roundOf_38 : decode cX12_roundOf 38 = .ok (.invokevirtual 404, 3) := by decide +kernel
theorem dX12_roundOf_41 : decode cX12_roundOf 41 = .ok (.isub, 1) := by decide +kernel
theorem dX12_roundOf_42 : decode cX12_roundOf 42 = .ok (.invokestatic 325, 3) := by decide +kernel
theorem dX12_roundOf_45 : decode cX12_roundOf 45 = .ok (.bipush 12, 2) := by decide +kernel
theorem dX12_roundOf_47 : decode cX12_roundOf 47 = .ok (.irem, 1) := by decide +kernel
theorem dX12_roundOf_48 : decode cX12_roundOf 48 = .ok (.ishr, 1) := by decide +kernel
theorem dX12_roundOf_49 : decode cX12_roundOf 49 = .ok (.iconst 1, 1) := by decide +kernel
theorem dX12_roundOf_50 : decode cX12_roundOf 50 = .ok (.iand, 1) := by decide +kernel
theorem dX12_roundOf_51 : decode cX12_roundOf 51 = .ok (.ifCond .ne 7, 3) := by decide +kernel
theorem dX12_roundOf_58 : decode cX12_roundOf 58 = .ok (.iconst 0, 1) := by decide +kernel
theorem dX12_roundOf_59 : decode cX12_roundOf 59 = .ok (.iadd, 1) := by decide +kernel
theorem dX12_roundOf_60 : decode cX12_roundOf 60 = .ok (.istore_n 3, 1) := by decide +kernel
theorem dX12_roundOf_61 : decode cX12_roundOf 61 = .ok (.iinc 4 1, 3) := by decide +kernel
theorem dX12_roundOf_64 : decode cX12_roundOf 64 = .ok (.goto (-59), 3) := by decide +kernel
theorem dX12_roundOf_54 : decode cX12_roundOf 54 = .ok (.iconst 1, 1) := by decide +kernel
theorem dX12_roundOf_55 : decode cX12_roundOf 55 = .ok (.goto 4, 3) := by decide +kernel
theorem dX12_round_0 : decode cX12_round 0 = .ok (.aload_n 0, 1) := by decide +kernel
theorem dX12_round_1 : decode cX12_round 1 = .ok (.iload_n 1, 1) := by decide +kernel
theorem dX12_round_2 : decode cX12_round 2 = .ok (.invokevirtual 338, 3) := by decide +kernel
theorem dX12_round_5 : decode cX12_round 5 = .ok (.ifCond .eq 26, 3) := by decide +kernel
theorem dX12_round_31 : decode cX12_round 31 = .ok (.iconst (-1), 1) := by decide +kernel
theorem dX12_round_32 : decode cX12_round 32 = .ok (.ireturn, 1) := by decide +kernel
theorem dX12_round_8 : decode cX12_round 8 = .ok (.iload_n 2, 1) := by decide +kernel
theorem dX12_round_9 : decode cX12_round 9 = .ok (.iconst 1, 1) := by decide +kernel
theorem dX12_round_10 : decode cX12_round 10 = .ok (.bipush 99, 2) := by decide +kernel
theorem dX12_round_12 : decode cX12_round 12 = .ok (.invokestatic 311, 3) := by decide +kernel
theorem dX12_round_15 : decode cX12_round 15 = .ok (.ifCond .eq 16, 3) := by decide +kernel
theorem dX12_round_18 : decode cX12_round 18 = .ok (.aload_n 0, 1) := by decide +kernel
theorem dX12_round_19 : decode cX12_round 19 = .ok (.aload_n 0, 1) := by decide +kernel
theorem dX12_round_20 : decode cX12_round 20 = .ok (.iload_n 1, 1) := by decide +kernel
theorem dX12_round_21 : decode cX12_round 21 = .ok (.invokevirtual 341, 3) := by decide +kernel
theorem dX12_round_24 : decode cX12_round 24 = .ok (.iload_n 2, 1) := by decide +kernel
theorem dX12_round_25 : decode cX12_round 25 = .ok (.invokevirtual 407, 3) := by decide +kernel
theorem dX12_round_28 : decode cX12_round 28 = .ok (.goto 4, 3) := by decide +kernel
theorem dX12_good_0 : decode cX12_good 0 = .ok (.aload_n 0, 1) := by decide +kernel
theorem dX12_good_1 : decode cX12_good 1 = .ok (.iload_n 1, 1) := by decide +kernel
theorem dX12_good_2 : decode cX12_good 2 = .ok (.invokevirtual 338, 3) := by decide +kernel
theorem dX12_good_5 : decode cX12_good 5 = .ok (.ifCond .eq 12, 3) := by decide +kernel
theorem dX12_good_17 : decode cX12_good 17 = .ok (.iconst (-1), 1) := by decide +kernel
theorem dX12_good_18 : decode cX12_good 18 = .ok (.ireturn, 1) := by decide +kernel
theorem dX12_good_8 : decode cX12_good 8 = .ok (.iload_n 2, 1) := by decide +kernel
theorem dX12_good_9 : decode cX12_good 9 = .ok (.iconst 0, 1) := by decide +kernel
theorem dX12_good_10 : decode cX12_good 10 = .ok (.iconst 1, 1) := by decide +kernel
theorem dX12_good_11 : decode cX12_good 11 = .ok (.invokestatic 311, 3) := by decide +kernel
theorem dX12_good_14 : decode cX12_good 14 = .ok (.ifCond .ne 5, 3) := by decide +kernel
theorem dX12_good_19 : decode cX12_good 19 = .ok (.iconst (-1), 1) := by decide +kernel
theorem dX12_good_20 : decode cX12_good 20 = .ok (.istore_n 3, 1) := by decide +kernel
theorem dX12_good_21 : decode cX12_good 21 = .ok (.iconst 1, 1) := by decide +kernel
theorem dX12_good_22 : decode cX12_good 22 = .ok (.istore 4, 2) := by decide +kernel
theorem dX12_good_24 : decode cX12_good 24 = .ok (.iload 4, 2) := by decide +kernel
theorem dX12_good_26 : decode cX12_good 26 = .ok (.bipush 99, 2) := by decide +kernel
theorem dX12_good_28 : decode cX12_good 28 = .ok (.if_icmp .gt 54, 3) := by decide +kernel
theorem dX12_good_82 : decode cX12_good 82 = .ok (.iload_n 3, 1) := by decide +kernel
theorem dX12_good_83 : decode cX12_good 83 = .ok (.ifCond .ge 7, 3) := by decide +kernel
theorem dX12_good_90 : decode cX12_good 90 = .ok (.iload_n 2, 1) := by decide +kernel
theorem dX12_good_91 : decode cX12_good 91 = .ok (.ifCond .ne 7, 3) := by decide +kernel
theorem dX12_good_98 : decode cX12_good 98 = .ok (.aload_n 0, 1) := by decide +kernel
theorem dX12_good_99 : decode cX12_good 99 = .ok (.aload_n 0, 1) := by decide +kernel
theorem dX12_good_100 : decode cX12_good 100 = .ok (.iload_n 1, 1) := by decide +kernel
theorem dX12_good_101 : decode cX12_good 101 = .ok (.invokevirtual 341, 3) := by decide +kernel
theorem dX12_good_104 : decode cX12_good 104 = .ok (.iload_n 3, 1) := by decide +kernel
theorem dX12_good_105 : decode cX12_good 105 = .ok (.invokevirtual 407, 3) := by decide +kernel
theorem dX12_good_108 : decode cX12_good 108 = .ok (.ireturn, 1) := by decide +kernel
theorem dX12_good_94 : decode cX12_good 94 = .ok (.iload_n 3, 1) := by decide +kernel
theorem dX12_good_95 : decode cX12_good 95 = .ok (.goto 13, 3) := by decide +kernel
theorem dX12_good_86 : decode cX12_good 86 = .ok (.iconst (-1), 1) := by decide +kernel
theorem dX12_good_87 : decode cX12_good 87 = .ok (.goto 21, 3) := by decide +kernel
theorem dX12_good_31 : decode cX12_good 31 = .ok (.iload 4, 2) := by decide +kernel
theorem dX12_good_33 : decode cX12_good 33 = .ok (.aload_n 0, 1) := by decide +kernel
theorem dX12_good_34 : decode cX12_good 34 = .ok (.aload_n 0, 1) := by decide +kernel
theorem dX12_good_35 : decode cX12_good 35 = .ok (.iload_n 1, 1) := by decide +kernel
theorem dX12_good_36 : decode cX12_good 36 = .ok (.invokevirtual 341, 3) := by decide +kernel
theorem dX12_good_39 : decode cX12_good 39 = .ok (.invokevirtual 401, 3) := by decide +kernel
theorem dX12_good_42 : decode cX12_good 42 = .ok (.if_icmp .ge 40, 3) := by decide +kernel
theorem dX12_good_45 : decode cX12_good 45 = .ok (.iload_n 3, 1) := by decide +kernel
theorem dX12_good_46 : decode cX12_good 46 = .ok (.ifCond .lt 27, 3) := by decide +kernel
theorem dX12_good_73 : decode cX12_good 73 = .ok (.iload 4, 2) := by decide +kernel
theorem dX12_good_75 : decode cX12_good 75 = .ok (.istore_n 3, 1) := by decide +kernel
theorem dX12_good_76 : decode cX12_good 76 = .ok (.iinc 4 1, 3) := by decide +kernel
theorem dX12_good_79 : decode cX12_good 79 = .ok (.goto (-55), 3) := by decide +kernel
theorem dX12_good_49 : decode cX12_good 49 = .ok (.aload_n 0, 1) := by decide +kernel
theorem dX12_good_50 : decode cX12_good 50 = .ok (.aload_n 0, 1) := by decide +kernel
theorem dX12_good_51 : decode cX12_good 51 = .ok (.iload_n 1, 1) := by decide +kernel
theorem dX12_good_52 : decode cX12_good 52 = .ok (.invokevirtual 341, 3) := by decide +kernel
theorem dX12_good_55 : decode cX12_good 55 = .ok (.iload 4, 2) := by decide +kernel
theorem dX12_good_57 : decode cX12_good 57 = .ok (.invokevirtual 407, 3) := by decide +kernel
theorem dX12_good_60 : decode cX12_good 60 = .ok (.aload_n 0, 1) := by decide +kernel
theorem dX12_good_61 : decode cX12_good 61 = .ok (.aload_n 0, 1) := by decide +kernel
theorem dX12_good_62 : decode cX12_good 62 = .ok (.iload_n 1, 1) := by decide +kernel
theorem dX12_good_63 : decode cX12_good 63 = .ok (.invokevirtual 341, 3) := by decide +kernel
theorem dX12_good_66 : decode cX12_good 66 = .ok (.iload_n 3, 1) := by decide +kernel
theorem dX12_good_67 : decode cX12_good 67 = .ok (.invokevirtual 407, 3) := by decide +kernel
theorem dX12_good_70 : decode cX12_good 70 = .ok (.if_icmp .ge 6, 3) := by decide +kernel
set_option maxHeartbeats 4000000 in
set_option maxRecDepth 100000 in
theorem m_bitsOf (l : Launch) (G : va_G) (cy : Nat → ClassId) (sz : Nat)  (n : Int32)    : Met l yX12_bitsOf (.code yX12_bitsOf cX12_bitsOf 3 (some .int) :: TBg) ({ frames := 1, cells := 0, slots := 0, locals := 64 }) (va_Pc [.int n] (En G cy [] sz)) (va_Qi (fun (r : Int32) (_ : Unit) => (0 ≤ r.toInt ∧ r.toInt ≤ 31) ∧ (r.toInt = bts n 31)) (fun _ _ => True) (va_A [] sz)) 0 0 (va_A [] sz) := by
  refine Met.ofW (cc := cX12_bitsOf) (maxL := 3) (ret := (some .int)) (by decide) rfl ?_
  intro p e s m args below meth c s₁ B hml hv9
  obtain ⟨rfl, hsz, hP, hK, hD0, hN⟩ := hv9
  have hx := B.exec
  have hb := B.bytes
  have hr := B.returns
  have hts := atoms_spec (ws := .code yX12_bitsOf cX12_bitsOf 3 (some .int) :: TBg) B.pre
  have ht : ∀ w ∈ TBg, w.before _ s = true := fun w h => hts w (List.mem_cons_of_mem _ h)
  have hown : s.vm.findClass RX12 = some m.cls := findClass_of_methodNamed B.named
  have hlocks := B.notSynchronized
  subst hsz
  generalize hAe : va_A [] s.heap.size = A at ⊢
  have hA : ∀ q : Nat, s.heap.size ≤ q → A q := fun q h => by rw [← hAe]; exact Or.inr h
  have hS : va_S A s.heap s.heap [] := va_S.rf
  have hl := lv_entry ([.int n]) (n := 3) (Nat.le_of_ble_eq_true rfl)
  rw [lg_entry_eq]
  generalize (lg_sl ([.int n]) ++ List.replicate (3 - (lg_sl ([.int n])).length) Slot.unset).toArray = ls at hl ⊢
  have hl : lv_has ls 3 [(0, .int n)] := hl
  have z0 : (0 : Int32).toInt = 0 := by decide
  have z1 : (1 : Int32).toInt = 1 := by decide
  have z2 : (31 : Int32).toInt = 31 := by decide
  refine lv_iconst (v := 0) hx hb dX12_bitsOf_0 (by decide) ?_
  refine lv_istore_n (lv' := [(1, .int 0), (0, .int n)]) hx hb dX12_bitsOf_1 rfl hl (by decide) rfl (fun ls hl => ?_)
  refine lv_iconst (v := 0) hx hb dX12_bitsOf_2 (by decide) ?_
  refine lv_istore_n (lv' := [(2, .int 0), (1, .int 0), (0, .int n)]) hx hb dX12_bitsOf_3 rfl hl (by decide) rfl (fun ls hl => ?_)
  refine W.widen (k := 0) (n := 0) (Nat.le_of_ble_eq_true rfl) (Nat.le_of_ble_eq_true rfl) ?_
  have lp_1 : ∀ (N_1 : Nat) (x2_1 : Int32) (x1_1 : Int32) (H : Heap) (locs : List Loc) (ls : Array Slot), (0 ≤ x2_1.toInt ∧ x2_1.toInt ≤ 31) → (0 ≤ x1_1.toInt ∧ x1_1.toInt ≤ 31) → (x1_1.toInt ≤ x2_1.toInt) → (x1_1.toInt = bts n (Int32.toNatClampNeg x2_1)) → (31 - x2_1.toInt).toNat < N_1 → va_P G vwCl [] H → va_S A s.heap H locs → lv_has ls 3 [(2, .int x2_1), (1, .int x1_1), (0, .int n)] → W p l e (headSpec (.code yX12_bitsOf cX12_bitsOf 3 (some .int) :: TBg) ({ frames := 1, cells := 0, slots := 0, locals := 64 })).room s m ([.int n] : List Value).toArray below meth c H locs 0 0 (MQ below (va_Qi (fun (r : Int32) (_ : Unit) => (0 ≤ r.toInt ∧ r.toInt ≤ 31) ∧ (r.toInt = bts n 31)) (fun _ _ => True) A) ([.int n] : List Value).toArray s 0 0 A) (F0 m 4 ls []) := by
    intro N_1
    induction N_1 with
    | zero => intro x2_1 x1_1 H locs ls qf1_0 qf1_1 qf1_2 qf1_3 hm hP hS hl; exact absurd hm (Nat.not_lt_zero _)
    | succ N_1 ih_1 =>
      intro x2_1 x1_1 H locs ls qf1_0 qf1_1 qf1_2 qf1_3 hm hP hS hl
      refine lv_iload_n hx hb dX12_bitsOf_4 rfl (lv_at hl 0 rfl) ?_
      refine lv_bipush (v := 31) hx hb dX12_bitsOf_5 (by decide) ?_
      refine lv_icmp_ge (tgt := 24) hx hb dX12_bitsOf_7 (by decide) (fun c_2 => ?_) (fun c_2 => ?_)
      · have q_3 : (31 : Int32).toInt ≤ x2_1.toInt := (ow_le _ _).mp c_2
        refine lv_iload_n hx hb dX12_bitsOf_24 rfl (lv_at hl 1 rfl) ?_
        refine W.widen (k := 0) (n := 0) (Nat.le_of_ble_eq_true rfl) (Nat.le_of_ble_eq_true rfl) ?_
        exact W.iret (v := x1_1) hx hb hr (fun t ht9 hW => ⟨⟨x1_1, (), rfl, ⟨by omega, by rw [show (31 : Nat) = Int32.toNatClampNeg x2_1 from by rw [ow_tn]; omega]; omega⟩, trivial⟩, hS.F ht9⟩) hS.2.2 dX12_bitsOf_25
      · have q_4 : x2_1.toInt < (31 : Int32).toInt := by have := (not_congr (ow_le _ _)).mp c_2; omega
        refine lv_iload_n hx hb dX12_bitsOf_10 rfl (lv_at hl 1 rfl) ?_
        refine lv_iload_n hx hb dX12_bitsOf_11 rfl (lv_at hl 2 rfl) ?_
        refine lv_iload_n hx hb dX12_bitsOf_12 rfl (lv_at hl 0 rfl) ?_
        refine lv_ishr hx hb dX12_bitsOf_13 ?_
        refine lv_topi (fun v_5 ev_5 => ?_)
        refine lv_iconst (v := 1) hx hb dX12_bitsOf_14 (by decide) ?_
        refine lv_iand hx hb dX12_bitsOf_15 ?_
        refine lv_topi (fun v_6 ev_6 => ?_)
        have q_7 : v_6.toInt = bt n x2_1 := by rw [ev_6, ev_5]; rfl
        have q_8 : 0 ≤ v_6.toInt ∧ v_6.toInt ≤ 1 := by rw [ev_6]; exact ow_and1 _
        refine lv_iadd hx hb dX12_bitsOf_16 ?_
        refine lv_topi (fun v_9 ev_9 => ?_)
        have q_10 : v_9.toInt = x1_1.toInt + v_6.toInt := ow_add ev_9 (by omega) (by omega)
        refine lv_istore_n (lv' := [(1, .int v_9), (2, .int x2_1), (0, .int n)]) hx hb dX12_bitsOf_17 rfl hl (by decide) rfl (fun ls hl => ?_)
        obtain ⟨v_11, ev_11⟩ : ∃ y : Int32, y = x2_1 + 1 := ⟨_, rfl⟩
        refine lv_iinc (v := v_11) (lv' := [(2, .int v_11), (1, .int v_9), (0, .int n)]) hx hb dX12_bitsOf_18 hl (k := 1) rfl (by rw [ev_11]; rfl) (by decide) rfl (fun ls hl => ?_)
        have q_12 : v_11.toInt = x2_1.toInt + 1 := by have := ow_add ev_11 (by omega) (by omega); omega
        refine lv_goto (tgt := 4) hx hb dX12_bitsOf_21 (by decide) ?_
        refine W.widen (k := 0) (n := 0) (Nat.le_of_ble_eq_true rfl) (Nat.le_of_ble_eq_true rfl) ?_
        exact ih_1 v_11 v_9 _ _ _ (by omega) (by omega) (by omega) (by rw [bt_step (k := x2_1) (k1 := v_11) (by omega) (by omega)]; omega) (by omega) hP hS (lv_sub hl [0, 1, 2] rfl)
  exact lp_1 _ (0) (0) _ _ _ (by omega) (by omega) (by omega) (show (0 : Int32).toInt = 0 by decide) (Nat.lt_succ_self _) hP hS (lv_sub hl [0, 1, 2] rfl)
set_option maxHeartbeats 4000000 in
set_option maxRecDepth 100000 in
theorem m_isAlike (l : Launch) (G : va_G) (cy : Nat → ClassId) (sz : Nat) (mo : Nat) (h : Nat → Nat) (T : Int) (v : Nat → Int32) (nm : Int64) (f : Nat → Nat → Int32) (g : Nat → Nat → Int64) (n : Int32) (n2 : Int32)  (hv : MIv T v) (hf : MIf f) (hR : RI v f) (hL : WL v f) (h_n : 0 ≤ n.toInt ∧ n.toInt ≤ 13) (h_n2 : 0 ≤ n2.toInt ∧ n2.toInt ≤ 13) : Met l yX12_isAlike (.code yX12_isAlike cX12_isAlike 3 (some .boolean) :: TBg) ({ frames := 5, cells := 0, slots := 0, locals := 320 }) (va_Pc [.ref mo, .int n, .int n2] (En G cy (WMs cy mo h v nm f g) sz)) (va_Qi (fun (r : Int32) (_ : Unit) => (r.toInt = 0 ∨ r.toInt = 1)) (fun _ _ => True) (va_A [] sz)) 0 0 (va_A [] sz) := by
  refine Met.ofW (cc := cX12_isAlike) (maxL := 3) (ret := (some .boolean)) (by decide) rfl ?_
  intro p e s m args below meth c s₁ B hml hv9
  obtain ⟨rfl, hsz, hP, hK, hD0, hN⟩ := hv9
  have hx := B.exec
  have hb := B.bytes
  have hr := B.returns
  have hts := atoms_spec (ws := .code yX12_isAlike cX12_isAlike 3 (some .boolean) :: TBg) B.pre
  have ht : ∀ w ∈ TBg, w.before _ s = true := fun w h => hts w (List.mem_cons_of_mem _ h)
  have hown : s.vm.findClass RX12 = some m.cls := findClass_of_methodNamed B.named
  have hlocks := B.notSynchronized
  subst hsz
  generalize hAe : va_A [] s.heap.size = A at ⊢
  have hA : ∀ q : Nat, s.heap.size ≤ q → A q := fun q h => by rw [← hAe]; exact Or.inr h
  have hS : va_S A s.heap s.heap [] := va_S.rf
  have hl := lv_entry ([.ref mo, .int n, .int n2]) (n := 3) (Nat.le_of_ble_eq_true rfl)
  rw [lg_entry_eq]
  generalize (lg_sl ([.ref mo, .int n, .int n2]) ++ List.replicate (3 - (lg_sl ([.ref mo, .int n, .int n2])).length) Slot.unset).toArray = ls at hl ⊢
  have hl : lv_has ls 3 [(0, .ref mo), (1, .int n), (2, .int n2)] := hl
  have z0 : (0 : Int32).toInt = 0 := by decide
  refine lv_aload_n hx hb dX12_isAlike_0 rfl (lv_at hl 0 rfl) ?_
  refine lv_aload_n hx hb dX12_isAlike_1 rfl (lv_at hl 0 rfl) ?_
  refine lv_iload_n hx hb dX12_isAlike_2 rfl (lv_at hl 1 rfl) ?_
  have hFc := fr_new hS hA
  refine va_calli (va_runV (As := [.int n]) (rest := [.ref mo]) ⟨hx, hb, hml, hown, ht⟩ (m_songOf l G cy _ mo h T v nm f g n  hv hf hR hL (by omega)) (cwV 1 ht (gv k_94 k_95 k_96 k_61 k_93) rfl rfl rfl (by decide +kernel) ⟨Nat.le_of_ble_eq_true rfl, Nat.le_of_ble_eq_true rfl⟩) ⟨En.blind, va_recv hK hP (ci := 12) (q0 := 0) rfl rfl, fun U hU hW => ⟨rfl, En.of hU hW hP hK hD0 hN⟩⟩ rfl rfl hl.1 rfl (lv_room (Nat.le_of_ble_eq_true rfl)) dX12_isAlike_3 ⟨Nat.le_of_ble_eq_true rfl, Nat.le_of_ble_eq_true rfl⟩) hS (fun q _ h => hFc q h) hFc (fun r_u_1 u_1 t9 H locs ht9 hvm hw hB hz1 hk1 hS => ?_)
  have hP := fr_keep hP hk1
  have wu_1 := hw
  clear hFc hk1 hz1 hB hw
  refine lv_aload_n hx hb dX12_isAlike_6 rfl (lv_at hl 0 rfl) ?_
  refine lv_iload_n hx hb dX12_isAlike_7 rfl (lv_at hl 2 rfl) ?_
  have hFc := fr_new hS hA
  refine va_calli (va_runV (As := [.int n2]) (rest := [.int r_u_1, .ref mo]) ⟨hx, hb, hml, hown, ht⟩ (m_songOf l G cy _ mo h T v nm f g n2  hv hf hR hL (by omega)) (cwV 1 ht (gv k_94 k_95 k_96 k_61 k_93) rfl rfl rfl (by decide +kernel) ⟨Nat.le_of_ble_eq_true rfl, Nat.le_of_ble_eq_true rfl⟩) ⟨En.blind, va_recv hK hP (ci := 12) (q0 := 0) rfl rfl, fun U hU hW => ⟨rfl, En.of hU hW hP hK hD0 hN⟩⟩ rfl rfl hl.1 rfl (lv_room (Nat.le_of_ble_eq_true rfl)) dX12_isAlike_8 ⟨Nat.le_of_ble_eq_true rfl, Nat.le_of_ble_eq_true rfl⟩) hS (fun q _ h => hFc q h) hFc (fun r_u_2 u_2 t9 H locs ht9 hvm hw hB hz1 hk1 hS => ?_)
  have hP := fr_keep hP hk1
  have wu_2 := hw
  clear hFc hk1 hz1 hB hw
  refine lv_iconst (v := 0) hx hb dX12_isAlike_11 (by decide) ?_
  have hFc := fr_new hS hA
  refine va_calli (va_runV (As := [.int r_u_1, .int r_u_2, .int 0]) (rest := []) ⟨hx, hb, hml, hown, ht⟩ (m_isWithin l G cy _ mo h T v nm f g r_u_1 r_u_2 (0)  hv hf hR hL (by omega) (by omega)) (cwV 3 ht (gv k_127 k_128 k_129 k_61 k_126) rfl rfl rfl (by decide +kernel) ⟨Nat.le_of_ble_eq_true rfl, Nat.le_of_ble_eq_true rfl⟩) ⟨En.blind, va_recv hK hP (ci := 12) (q0 := 0) rfl rfl, fun U hU hW => ⟨rfl, En.of hU hW hP hK hD0 hN⟩⟩ rfl rfl hl.1 rfl (lv_room (Nat.le_of_ble_eq_true rfl)) dX12_isAlike_12 ⟨Nat.le_of_ble_eq_true rfl, Nat.le_of_ble_eq_true rfl⟩) hS (fun q _ h => hFc q h) hFc (fun r_u_3 u_3 t9 H locs ht9 hvm hw hB hz1 hk1 hS => ?_)
  have hP := fr_keep hP hk1
  have wu_3 := hw
  clear hFc hk1 hz1 hB hw
  refine W.widen (k := 0) (n := 0) (Nat.le_of_ble_eq_true rfl) (Nat.le_of_ble_eq_true rfl) ?_
  exact W.zret (v := r_u_3) hx hb hr (ow_nb (by omega)) (fun t ht9 hW => ⟨⟨r_u_3, (), rfl, (by omega), trivial⟩, hS.F ht9⟩) hS.2.2 dX12_isAlike_15
set_option maxHeartbeats 4000000 in
set_option maxRecDepth 100000 in
theorem m_dealt (l : Launch) (G : va_G) (cy : Nat → ClassId) (sz : Nat) (mo : Nat) (h : Nat → Nat) (T : Int) (v : Nat → Int32) (nm : Int64) (f : Nat → Nat → Int32) (g : Nat → Nat → Int64) (n : Int32)  (hv : MIv T v) (hf : MIf f) (hR : RI v f) (hL : WL v f)  : Met l yX12_dealt (.code yX12_dealt cX12_dealt 7 (some .int) :: TBg) ({ frames := 5, cells := 0, slots := 0, locals := 320 }) (va_Pc [.ref mo, .int n] (En G cy (WMs cy mo h v nm f g) sz)) (va_Qi (fun (r : Int32) (u : (Nat → Int32) × Int64 × (Nat → Nat → Int32) × (Nat → Nat → Int64)) => MIv T u.1 ∧ MIf u.2.2.1 ∧ RI u.1 u.2.2.1 ∧ WL u.1 u.2.2.1 ∧ (True)) (fun u t => Ex G (va_A (WMs cy mo h v nm f g) sz) (WMs cy mo h u.1 u.2.1 u.2.2.1 u.2.2.2) t) (va_A (WMs cy mo h v nm f g) sz)) 0 0 (va_A (WMs cy mo h v nm f g) sz) := by
  refine Met.ofW (cc := cX12_dealt) (maxL := 7) (ret := (some .int)) (by decide) rfl ?_
  intro p e s m args below meth c s₁ B hml hv9
  obtain ⟨rfl, hsz, hP, hK, hD0, hN⟩ := hv9
  have hx := B.exec
  have hb := B.bytes
  have hr := B.returns
  have hts := atoms_spec (ws := .code yX12_dealt cX12_dealt 7 (some .int) :: TBg) B.pre
  have ht : ∀ w ∈ TBg, w.before _ s = true := fun w h => hts w (List.mem_cons_of_mem _ h)
  have hown : s.vm.findClass RX12 = some m.cls := findClass_of_methodNamed B.named
  have hlocks := B.notSynchronized
  subst hsz
  have hD := hD0.self (sz := s.heap.size)
  generalize hAe : va_A (WMs cy mo h v nm f g) s.heap.size = A at hD ⊢
  have hA : ∀ q : Nat, s.heap.size ≤ q → A q := fun q h => by rw [← hAe]; exact Or.inr h
  have hS : va_S A s.heap s.heap [] := va_S.rf
  have hl := lv_entry ([.ref mo, .int n]) (n := 7) (Nat.le_of_ble_eq_true rfl)
  rw [lg_entry_eq]
  generalize (lg_sl ([.ref mo, .int n]) ++ List.replicate (7 - (lg_sl ([.ref mo, .int n])).length) Slot.unset).toArray = ls at hl ⊢
  have hl : lv_has ls 7 [(0, .ref mo), (1, .int n)] := hl
  have z0 : (-1 : Int32).toInt = -1 := by decide
  have z1 : (0 : Int32).toInt = 0 := by decide
  have z2 : (1 : Int32).toInt = 1 := by decide
  have z3 : (99 : Int32).toInt = 99 := by decide
  refine lv_iload_n hx hb dX12_dealt_0 rfl (lv_at hl 1 rfl) ?_
  refine lv_iconst (v := 0) hx hb dX12_dealt_1 (by decide) ?_
  refine lv_bipush (v := 99) hx hb dX12_dealt_2 (by decide) ?_
  have hFc := fr_new hS hA
  refine va_calli (va_runS (As := [.int n, .int 0, .int 99]) (rest := []) ⟨hx, hb, hml, hown, ht⟩ (m_isIn l G cy _  n (0) (99)  ) (va_cwS 3 ht (gs k_59 k_60 k_61 k_58) rfl rfl rfl (by decide +kernel) ⟨Nat.le_of_ble_eq_true rfl, Nat.le_of_ble_eq_true rfl⟩) ⟨En.blind, fun U hU hW => ⟨rfl, En.of hU hW (va_P0 (H := _)) hK va_D0 hN⟩⟩ rfl rfl hl.1 rfl (lv_room (Nat.le_of_ble_eq_true rfl)) dX12_dealt_4 ⟨Nat.le_of_ble_eq_true rfl, Nat.le_of_ble_eq_true rfl⟩) hS (fun q _ h => hFc q h) hFc (fun r_u_1 u_1 t9 H locs ht9 hvm hw hB hz1 hk1 hS => ?_)
  have hP := fr_keep hP hk1
  have wu_1 := hw
  clear hFc hk1 hz1 hB hw
  refine lv_if_ne (tgt := 12) hx hb dX12_dealt_7 (by decide) (fun c_2 => ?_) (fun c_2 => ?_)
  · have q_3 : ¬ r_u_1.toInt = (0 : Int32).toInt := by have := (not_congr (ow_eq _ _)).mp c_2; omega
    refine lv_aload_n hx hb dX12_dealt_12 rfl (lv_at hl 0 rfl) ?_
    refine mg_11 hx hb ht hown hK hP dX12_dealt_13 ?_
    refine lv_aload_n hx hb dX12_dealt_16 rfl (lv_at hl 0 rfl) ?_
    refine mg_29 hx hb ht hown hK hP dX12_dealt_17 ?_
    have q_4 : 0 ≤ (v 29).toInt ∧ (v 29).toInt ≤ 1 := hv 29
    have q_5 : vp_in (v 29) 2 := vp_in_iff.mpr ⟨by omega, by omega⟩
    refine ml_11 hx hb hK hP q_5 dX12_dealt_20 ?_
    refine lv_topi (fun v_6 ev_6 => ?_)
    have q_7 : 0 ≤ v_6.toInt ∧ v_6.toInt ≤ 14 := by rw [ev_6]; exact MIf.rd 11 hf q_5
    have q_8 : v_6.toInt = ((f 11) (Int32.toNatClampNeg (v 29))).toInt := (congrArg Int32.toInt ev_6).trans (congrArg (fun z : Nat → Int32 => (z (Int32.toNatClampNeg (v 29))).toInt) (show f 11 = (f 11) from rfl))
    refine lv_istore_n (lv' := [(2, .int v_6), (0, .ref mo), (1, .int n)]) hx hb dX12_dealt_21 rfl hl (by decide) rfl (fun ls hl => ?_)
    refine lv_iconst (v := 0) hx hb dX12_dealt_22 (by decide) ?_
    refine lv_istore_n (lv' := [(3, .int 0), (2, .int v_6), (0, .ref mo), (1, .int n)]) hx hb dX12_dealt_23 rfl hl (by decide) rfl (fun ls hl => ?_)
    refine W.widen (k := 0) (n := 0) (Nat.le_of_ble_eq_true rfl) (Nat.le_of_ble_eq_true rfl) ?_
    have lp_9 : ∀ (N_9 : Nat) (x3_9 : Int32) (v9 : Nat → Int32) (nm9 : Int64) (f9 : Nat → Nat → Int32) (g9 : Nat → Nat → Int64) (H : Heap) (locs : List Loc) (ls : Array Slot), MIv T v9 → MIf f9 → RI v9 f9 → WL v9 f9 → (0 ≤ x3_9.toInt ∧ x3_9.toInt ≤ 14) → (14 - x3_9.toInt).toNat < N_9 → va_P G vwCl (WMs cy mo h v9 nm9 f9 g9) H → va_D A (WMs cy mo h v9 nm9 f9 g9) → va_S A s.heap H locs → lv_has ls 7 [(3, .int x3_9), (2, .int v_6), (0, .ref mo), (1, .int n)] → W p l e (headSpec (.code yX12_dealt cX12_dealt 7 (some .int) :: TBg) ({ frames := 5, cells := 0, slots := 0, locals := 320 })).room s m ([.ref mo, .int n] : List Value).toArray below meth c H locs 0 0 (MQ below (va_Qi (fun (r : Int32) (u : (Nat → Int32) × Int64 × (Nat → Nat → Int32) × (Nat → Nat → Int64)) => MIv T u.1 ∧ MIf u.2.2.1 ∧ RI u.1 u.2.2.1 ∧ WL u.1 u.2.2.1 ∧ (True)) (fun u t => Ex G A (WMs cy mo h u.1 u.2.1 u.2.2.1 u.2.2.2) t) A) ([.ref mo, .int n] : List Value).toArray s 0 0 A) (F0 m 24 ls []) := by
      intro N_9
      induction N_9 with
      | zero => intro x3_9 v9 nm9 f9 g9 H locs ls hv hf hR hL qf9_0 hm hP hD hS hl; exact absurd hm (Nat.not_lt_zero _)
      | succ N_9 ih_9 =>
        intro x3_9 v9 nm9 f9 g9 H locs ls hv hf hR hL qf9_0 hm hP hD hS hl
        refine lv_iload_n hx hb dX12_dealt_24 rfl (lv_at hl 0 rfl) ?_
        refine lv_iload_n hx hb dX12_dealt_25 rfl (lv_at hl 1 rfl) ?_
        refine lv_icmp_ge (tgt := 114) hx hb dX12_dealt_26 (by decide) (fun c_10 => ?_) (fun c_10 => ?_)
        · have q_11 : v_6.toInt ≤ x3_9.toInt := (ow_le _ _).mp c_10
          refine lv_iconst (v := 0) hx hb dX12_dealt_114 (by decide) ?_
          refine lv_istore_n (lv' := [(3, .int 0), (2, .int v_6), (0, .ref mo), (1, .int n)]) hx hb dX12_dealt_115 rfl hl (by decide) rfl (fun ls hl => ?_)
          refine lv_iconst (v := 1) hx hb dX12_dealt_116 (by decide) ?_
          refine lv_istore (lv' := [(4, .int 1), (3, .int 0), (2, .int v_6), (0, .ref mo), (1, .int n)]) hx hb dX12_dealt_117 hl (by decide) rfl (fun ls hl => ?_)
          refine W.widen (k := 0) (n := 0) (Nat.le_of_ble_eq_true rfl) (Nat.le_of_ble_eq_true rfl) ?_
          have lp_12 : ∀ (N_12 : Nat) (x4_12 : Int32) (x3_12 : Int32) (v12 : Nat → Int32) (nm12 : Int64) (f12 : Nat → Nat → Int32) (g12 : Nat → Nat → Int64) (H : Heap) (locs : List Loc) (ls : Array Slot), MIv T v12 → MIf f12 → RI v12 f12 → WL v12 f12 → (1 ≤ x4_12.toInt ∧ x4_12.toInt ≤ 2147483647) → (2147483647 - x4_12.toInt).toNat < N_12 → va_P G vwCl (WMs cy mo h v12 nm12 f12 g12) H → va_D A (WMs cy mo h v12 nm12 f12 g12) → va_S A s.heap H locs → lv_has ls 7 [(4, .int x4_12), (3, .int x3_12), (2, .int v_6), (0, .ref mo), (1, .int n)] → W p l e (headSpec (.code yX12_dealt cX12_dealt 7 (some .int) :: TBg) ({ frames := 5, cells := 0, slots := 0, locals := 320 })).room s m ([.ref mo, .int n] : List Value).toArray below meth c H locs 0 0 (MQ below (va_Qi (fun (r : Int32) (u : (Nat → Int32) × Int64 × (Nat → Nat → Int32) × (Nat → Nat → Int64)) => MIv T u.1 ∧ MIf u.2.2.1 ∧ RI u.1 u.2.2.1 ∧ WL u.1 u.2.2.1 ∧ (True)) (fun u t => Ex G A (WMs cy mo h u.1 u.2.1 u.2.2.1 u.2.2.2) t) A) ([.ref mo, .int n] : List Value).toArray s 0 0 A) (F0 m 119 ls []) := by
            intro N_12
            induction N_12 with
            | zero => intro x4_12 x3_12 v12 nm12 f12 g12 H locs ls hv hf hR hL qf12_0 hm hP hD hS hl; exact absurd hm (Nat.not_lt_zero _)
            | succ N_12 ih_12 =>
              intro x4_12 x3_12 v12 nm12 f12 g12 H locs ls hv hf hR hL qf12_0 hm hP hD hS hl
              refine lv_iload hx hb dX12_dealt_119 (lv_at hl 0 rfl) ?_
              refine lv_iconst (v := 1) hx hb dX12_dealt_121 (by decide) ?_
              refine lv_iload_n hx hb dX12_dealt_122 rfl (lv_at hl 2 rfl) ?_
              refine lv_ishl hx hb dX12_dealt_123 ?_
              refine lv_topi (fun v_13 ev_13 => ?_)
              have q_14 : -2147483648 ≤ v_13.toInt ∧ v_13.toInt ≤ 2147483647 := ow_any v_13
              refine lv_icmp_ge (tgt := 209) hx hb dX12_dealt_124 (by decide) (fun c_15 => ?_) (fun c_15 => ?_)
              · have q_16 : v_13.toInt ≤ x4_12.toInt := (ow_le _ _).mp c_15
                refine lv_iload_n hx hb dX12_dealt_209 rfl (lv_at hl 1 rfl) ?_
                refine W.widen (k := 0) (n := 0) (Nat.le_of_ble_eq_true rfl) (Nat.le_of_ble_eq_true rfl) ?_
                exact W.iret (v := x3_12) hx hb hr (fun t ht9 hW => ⟨⟨x3_12, (v12, nm12, f12, g12), rfl, ⟨hv, hf, hR, hL, trivial⟩, ⟨by rw [ht9]; exact hP, hD⟩⟩, hS.F ht9⟩) hS.2.2 dX12_dealt_210
              · have q_17 : x4_12.toInt < v_13.toInt := by have := (not_congr (ow_le _ _)).mp c_15; omega
                refine lv_iload hx hb dX12_dealt_127 (lv_at hl 0 rfl) ?_
                have hFc := fr_new hS hA
                refine va_calli (va_runS (As := [.int x4_12]) (rest := []) ⟨hx, hb, hml, hown, ht⟩ (m_bitsOf l G cy _  x4_12  ) (va_cwS 1 ht (gs k_153 k_154 k_61 k_152) rfl rfl rfl (by decide +kernel) ⟨Nat.le_of_ble_eq_true rfl, Nat.le_of_ble_eq_true rfl⟩) ⟨En.blind, fun U hU hW => ⟨rfl, En.of hU hW (va_P0 (H := _)) hK va_D0 hN⟩⟩ rfl rfl hl.1 rfl (lv_room (Nat.le_of_ble_eq_true rfl)) dX12_dealt_129 ⟨Nat.le_of_ble_eq_true rfl, Nat.le_of_ble_eq_true rfl⟩) hS (fun q _ h => hFc q h) hFc (fun r_u_18 u_18 t9 H locs ht9 hvm hw hB hz1 hk1 hS => ?_)
                have hP := fr_keep hP hk1
                have wu_18 := hw
                clear hFc hk1 hz1 hB hw
                refine lv_iload_n hx hb dX12_dealt_132 rfl (lv_at hl 1 rfl) ?_
                have hFc := fr_new hS hA
                refine va_calli (va_runS (As := [.int x3_12]) (rest := [.int r_u_18]) ⟨hx, hb, hml, hown, ht⟩ (m_bitsOf l G cy _  x3_12  ) (va_cwS 1 ht (gs k_153 k_154 k_61 k_152) rfl rfl rfl (by decide +kernel) ⟨Nat.le_of_ble_eq_true rfl, Nat.le_of_ble_eq_true rfl⟩) ⟨En.blind, fun U hU hW => ⟨rfl, En.of hU hW (va_P0 (H := _)) hK va_D0 hN⟩⟩ rfl rfl hl.1 rfl (lv_room (Nat.le_of_ble_eq_true rfl)) dX12_dealt_133 ⟨Nat.le_of_ble_eq_true rfl, Nat.le_of_ble_eq_true rfl⟩) hS (fun q _ h => hFc q h) hFc (fun r_u_19 u_19 t9 H locs ht9 hvm hw hB hz1 hk1 hS => ?_)
                have hP := fr_keep hP hk1
                have wu_19 := hw
                clear hFc hk1 hz1 hB hw
                refine lv_icmp_gt (tgt := 142) hx hb dX12_dealt_136 (by decide) (fun c_20 => ?_) (fun c_20 => ?_)
                · have q_21 : r_u_19.toInt < r_u_18.toInt := (ow_lt _ _).mp c_20
                  refine lv_iconst (v := 1) hx hb dX12_dealt_142 (by decide) ?_
                  refine lv_istore (lv' := [(5, .int 1), (4, .int x4_12), (3, .int x3_12), (2, .int v_6), (0, .ref mo), (1, .int n)]) hx hb dX12_dealt_143 hl (by decide) rfl (fun ls hl => ?_)
                  refine lv_iconst (v := 0) hx hb dX12_dealt_145 (by decide) ?_
                  refine lv_istore (lv' := [(6, .int 0), (5, .int 1), (4, .int x4_12), (3, .int x3_12), (2, .int v_6), (0, .ref mo), (1, .int n)]) hx hb dX12_dealt_146 hl (by decide) rfl (fun ls hl => ?_)
                  refine W.widen (k := 0) (n := 0) (Nat.le_of_ble_eq_true rfl) (Nat.le_of_ble_eq_true rfl) ?_
                  have lp_22 : ∀ (N_22 : Nat) (x6_22 : Int32) (x5_22 : Int32) (H : Heap) (locs : List Loc) (ls : Array Slot), (0 ≤ x6_22.toInt ∧ x6_22.toInt ≤ 14) → (0 ≤ x5_22.toInt ∧ x5_22.toInt ≤ 1) → (14 - x6_22.toInt).toNat < N_22 → va_P G vwCl (WMs cy mo h v12 nm12 f12 g12) H → va_D A (WMs cy mo h v12 nm12 f12 g12) → va_S A s.heap H locs → lv_has ls 7 [(6, .int x6_22), (5, .int x5_22), (4, .int x4_12), (3, .int x3_12), (2, .int v_6), (0, .ref mo), (1, .int n)] → W p l e (headSpec (.code yX12_dealt cX12_dealt 7 (some .int) :: TBg) ({ frames := 5, cells := 0, slots := 0, locals := 320 })).room s m ([.ref mo, .int n] : List Value).toArray below meth c H locs 0 0 (MQ below (va_Qi (fun (r : Int32) (u : (Nat → Int32) × Int64 × (Nat → Nat → Int32) × (Nat → Nat → Int64)) => MIv T u.1 ∧ MIf u.2.2.1 ∧ RI u.1 u.2.2.1 ∧ WL u.1 u.2.2.1 ∧ (True)) (fun u t => Ex G A (WMs cy mo h u.1 u.2.1 u.2.2.1 u.2.2.2) t) A) ([.ref mo, .int n] : List Value).toArray s 0 0 A) (F0 m 148 ls []) := by
                    intro N_22
                    induction N_22 with
                    | zero => intro x6_22 x5_22 H locs ls qf22_0 qf22_1 hm hP hD hS hl; exact absurd hm (Nat.not_lt_zero _)
                    | succ N_22 ih_22 =>
                      intro x6_22 x5_22 H locs ls qf22_0 qf22_1 hm hP hD hS hl
                      refine lv_iload hx hb dX12_dealt_148 (lv_at hl 0 rfl) ?_
                      refine lv_iload_n hx hb dX12_dealt_150 rfl (lv_at hl 4 rfl) ?_
                      refine lv_icmp_ge (tgt := 195) hx hb dX12_dealt_151 (by decide) (fun c_23 => ?_) (fun c_23 => ?_)
                      · have q_24 : v_6.toInt ≤ x6_22.toInt := (ow_le _ _).mp c_23
                        refine lv_iload hx hb dX12_dealt_195 (lv_at hl 1 rfl) ?_
                        refine lv_if_eq (tgt := 203) hx hb dX12_dealt_197 (by decide) (fun c_25 => ?_) (fun c_25 => ?_)
                        · have q_26 : x5_22.toInt = (0 : Int32).toInt := (ow_eq _ _).mp c_25
                          obtain ⟨v_27, ev_27⟩ : ∃ y : Int32, y = x4_12 + 1 := ⟨_, rfl⟩
                          refine lv_iinc (v := v_27) (lv' := [(4, .int v_27), (6, .int x6_22), (5, .int x5_22), (3, .int x3_12), (2, .int v_6), (0, .ref mo), (1, .int n)]) hx hb dX12_dealt_203 hl (k := 2) rfl (by rw [ev_27]; rfl) (by decide) rfl (fun ls hl => ?_)
                          have q_28 : v_27.toInt = x4_12.toInt + 1 := by have := ow_add ev_27 (by omega) (by omega); omega
                          refine lv_goto (tgt := 119) hx hb dX12_dealt_206 (by decide) ?_
                          refine W.widen (k := 0) (n := 0) (Nat.le_of_ble_eq_true rfl) (Nat.le_of_ble_eq_true rfl) ?_
                          exact ih_12 v_27 x3_12 v12 nm12 f12 g12 _ _ _ hv hf hR hL (by omega) (by omega) hP hD hS (lv_sub hl [0, 3, 4, 5, 6] rfl)
                        · have q_29 : ¬ x5_22.toInt = (0 : Int32).toInt := by have := (not_congr (ow_eq _ _)).mp c_25; omega
                          refine lv_iload hx hb dX12_dealt_200 (lv_at hl 2 rfl) ?_
                          refine lv_istore_n (lv' := [(3, .int x4_12), (6, .int x6_22), (5, .int x5_22), (4, .int x4_12), (2, .int v_6), (0, .ref mo), (1, .int n)]) hx hb dX12_dealt_202 rfl hl (by decide) rfl (fun ls hl => ?_)
                          obtain ⟨v_30, ev_30⟩ : ∃ y : Int32, y = x4_12 + 1 := ⟨_, rfl⟩
                          refine lv_iinc (v := v_30) (lv' := [(4, .int v_30), (3, .int x4_12), (6, .int x6_22), (5, .int x5_22), (2, .int v_6), (0, .ref mo), (1, .int n)]) hx hb dX12_dealt_203 hl (k := 3) rfl (by rw [ev_30]; rfl) (by decide) rfl (fun ls hl => ?_)
                          have q_31 : v_30.toInt = x4_12.toInt + 1 := by have := ow_add ev_30 (by omega) (by omega); omega
                          refine lv_goto (tgt := 119) hx hb dX12_dealt_206 (by decide) ?_
                          refine W.widen (k := 0) (n := 0) (Nat.le_of_ble_eq_true rfl) (Nat.le_of_ble_eq_true rfl) ?_
                          exact ih_12 v_30 x4_12 v12 nm12 f12 g12 _ _ _ hv hf hR hL (by omega) (by omega) hP hD hS (lv_sub hl [0, 1, 4, 5, 6] rfl)
                      · have q_32 : x6_22.toInt < v_6.toInt := by have := (not_congr (ow_le _ _)).mp c_23; omega
                        refine lv_iload hx hb dX12_dealt_154 (lv_at hl 1 rfl) ?_
                        refine lv_if_eq (tgt := 195) hx hb dX12_dealt_156 (by decide) (fun c_33 => ?_) (fun c_33 => ?_)
                        · have q_34 : x5_22.toInt = (0 : Int32).toInt := (ow_eq _ _).mp c_33
                          refine lv_iload hx hb dX12_dealt_195 (lv_at hl 1 rfl) ?_
                          refine lv_if_eq (tgt := 203) hx hb dX12_dealt_197 (by decide) (fun c_35 => ?_) (fun c_35 => ?_)
                          · have q_36 : x5_22.toInt = (0 : Int32).toInt := (ow_eq _ _).mp c_35
                            obtain ⟨v_37, ev_37⟩ : ∃ y : Int32, y = x4_12 + 1 := ⟨_, rfl⟩
                            refine lv_iinc (v := v_37) (lv' := [(4, .int v_37), (6, .int x6_22), (5, .int x5_22), (3, .int x3_12), (2, .int v_6), (0, .ref mo), (1, .int n)]) hx hb dX12_dealt_203 hl (k := 2) rfl (by rw [ev_37]; rfl) (by decide) rfl (fun ls hl => ?_)
                            have q_38 : v_37.toInt = x4_12.toInt + 1 := by have := ow_add ev_37 (by omega) (by omega); omega
                            refine lv_goto (tgt := 119) hx hb dX12_dealt_206 (by decide) ?_
                            refine W.widen (k := 0) (n := 0) (Nat.le_of_ble_eq_true rfl) (Nat.le_of_ble_eq_true rfl) ?_
                            exact ih_12 v_37 x3_12 v12 nm12 f12 g12 _ _ _ hv hf hR hL (by omega) (by omega) hP hD hS (lv_sub hl [0, 3, 4, 5, 6] rfl)
                          · have q_39 : ¬ x5_22.toInt = (0 : Int32).toInt := by have := (not_congr (ow_eq _ _)).mp c_35; omega
                            exfalso
                            omega
                        · have q_40 : ¬ x5_22.toInt = (0 : Int32).toInt := by have := (not_congr (ow_eq _ _)).mp c_33; omega
                          refine lv_iload hx hb dX12_dealt_159 (lv_at hl 2 rfl) ?_
                          refine lv_iload hx hb dX12_dealt_161 (lv_at hl 0 rfl) ?_
                          refine lv_ishr hx hb dX12_dealt_163 ?_
                          refine lv_topi (fun v_41 ev_41 => ?_)
                          refine lv_iconst (v := 1) hx hb dX12_dealt_164 (by decide) ?_
                          refine lv_iand hx hb dX12_dealt_165 ?_
                          refine lv_topi (fun v_42 ev_42 => ?_)
                          have q_43 : v_42.toInt = bt x4_12 x6_22 := by rw [ev_42, ev_41]; rfl
                          have q_44 : 0 ≤ v_42.toInt ∧ v_42.toInt ≤ 1 := by rw [ev_42]; exact ow_and1 _
                          refine lv_if_eq (tgt := 182) hx hb dX12_dealt_166 (by decide) (fun c_45 => ?_) (fun c_45 => ?_)
                          · have q_46 : v_42.toInt = (0 : Int32).toInt := (ow_eq _ _).mp c_45
                            refine lv_iconst (v := 1) hx hb dX12_dealt_182 (by decide) ?_
                            refine lv_goto (tgt := 187) hx hb dX12_dealt_183 (by decide) ?_
                            refine lv_istore (lv' := [(5, .int 1), (6, .int x6_22), (4, .int x4_12), (3, .int x3_12), (2, .int v_6), (0, .ref mo), (1, .int n)]) hx hb dX12_dealt_187 hl (by decide) rfl (fun ls hl => ?_)
                            obtain ⟨v_47, ev_47⟩ : ∃ y : Int32, y = x6_22 + 1 := ⟨_, rfl⟩
                            refine lv_iinc (v := v_47) (lv' := [(6, .int v_47), (5, .int 1), (4, .int x4_12), (3, .int x3_12), (2, .int v_6), (0, .ref mo), (1, .int n)]) hx hb dX12_dealt_189 hl (k := 1) rfl (by rw [ev_47]; rfl) (by decide) rfl (fun ls hl => ?_)
                            have q_48 : v_47.toInt = x6_22.toInt + 1 := by have := ow_add ev_47 (by omega) (by omega); omega
                            refine lv_goto (tgt := 148) hx hb dX12_dealt_192 (by decide) ?_
                            refine W.widen (k := 0) (n := 0) (Nat.le_of_ble_eq_true rfl) (Nat.le_of_ble_eq_true rfl) ?_
                            exact ih_22 v_47 (1) _ _ _ (by omega) (by omega) (by omega) hP hD hS (lv_sub hl [0, 1, 2, 3, 4, 5, 6] rfl)
                          · have q_49 : ¬ v_42.toInt = (0 : Int32).toInt := by have := (not_congr (ow_eq _ _)).mp c_45; omega
                            refine lv_aload_n hx hb dX12_dealt_169 rfl (lv_at hl 5 rfl) ?_
                            refine mg_38 hx hb ht hown hK hP dX12_dealt_170 ?_
                            refine lv_iload hx hb dX12_dealt_173 (lv_at hl 0 rfl) ?_
                            have q_50 : vp_in x6_22 14 := vp_in_iff.mpr ⟨by omega, by omega⟩
                            refine ml_38 hx hb hK hP q_50 dX12_dealt_175 ?_
                            refine lv_topi (fun v_51 ev_51 => ?_)
                            refine lv_iload hx hb dX12_dealt_176 (lv_at hl 2 rfl) ?_
                            refine lv_iand hx hb dX12_dealt_178 ?_
                            refine lv_topi (fun v_52 ev_52 => ?_)
                            refine lv_if_ne (tgt := 186) hx hb dX12_dealt_179 (by decide) (fun c_53 => ?_) (fun c_53 => ?_)
                            · have q_54 : ¬ v_52.toInt = (0 : Int32).toInt := by have := (not_congr (ow_eq _ _)).mp c_53; omega
                              refine lv_iconst (v := 0) hx hb dX12_dealt_186 (by decide) ?_
                              refine lv_istore (lv' := [(5, .int 0), (6, .int x6_22), (4, .int x4_12), (3, .int x3_12), (2, .int v_6), (0, .ref mo), (1, .int n)]) hx hb dX12_dealt_187 hl (by decide) rfl (fun ls hl => ?_)
                              obtain ⟨v_55, ev_55⟩ : ∃ y : Int32, y = x6_22 + 1 := ⟨_, rfl⟩
                              refine lv_iinc (v := v_55) (lv' := [(6, .int v_55), (5, .int 0), (4, .int x4_12), (3, .int x3_12), (2, .int v_6), (0, .ref mo), (1, .int n)]) hx hb dX12_dealt_189 hl (k := 1) rfl (by rw [ev_55]; rfl) (by decide) rfl (fun ls hl => ?_)
                              have q_56 : v_55.toInt = x6_22.toInt + 1 := by have := ow_add ev_55 (by omega) (by omega); omega
                              refine lv_goto (tgt := 148) hx hb dX12_dealt_192 (by decide) ?_
                              refine W.widen (k := 0) (n := 0) (Nat.le_of_ble_eq_true rfl) (Nat.le_of_ble_eq_true rfl) ?_
                              exact ih_22 v_55 (0) _ _ _ (by omega) (by omega) (by omega) hP hD hS (lv_sub hl [0, 1, 2, 3, 4, 5, 6] rfl)
                            · have q_57 : v_52.toInt = (0 : Int32).toInt := (ow_eq _ _).mp c_53
                              refine lv_iconst (v := 1) hx hb dX12_dealt_182 (by decide) ?_
                              refine lv_goto (tgt := 187) hx hb dX12_dealt_183 (by decide) ?_
                              refine lv_istore (lv' := [(5, .int 1), (6, .int x6_22), (4, .int x4_12), (3, .int x3_12), (2, .int v_6), (0, .ref mo), (1, .int n)]) hx hb dX12_dealt_187 hl (by decide) rfl (fun ls hl => ?_)
                              obtain ⟨v_58, ev_58⟩ : ∃ y : Int32, y = x6_22 + 1 := ⟨_, rfl⟩
                              refine lv_iinc (v := v_58) (lv' := [(6, .int v_58), (5, .int 1), (4, .int x4_12), (3, .int x3_12), (2, .int v_6), (0, .ref mo), (1, .int n)]) hx hb dX12_dealt_189 hl (k := 1) rfl (by rw [ev_58]; rfl) (by decide) rfl (fun ls hl => ?_)
                              have q_59 : v_58.toInt = x6_22.toInt + 1 := by have := ow_add ev_58 (by omega) (by omega); omega
                              refine lv_goto (tgt := 148) hx hb dX12_dealt_192 (by decide) ?_
                              refine W.widen (k := 0) (n := 0) (Nat.le_of_ble_eq_true rfl) (Nat.le_of_ble_eq_true rfl) ?_
                              exact ih_22 v_58 (1) _ _ _ (by omega) (by omega) (by omega) hP hD hS (lv_sub hl [0, 1, 2, 3, 4, 5, 6] rfl)
                  exact lp_22 _ (0) (1) _ _ _ (by omega) (by omega) (Nat.lt_succ_self _) hP hD hS (lv_sub hl [0, 1, 2, 3, 4, 5, 6] rfl)
                · have q_60 : r_u_18.toInt ≤ r_u_19.toInt := by have := (not_congr (ow_lt _ _)).mp c_20; omega
                  refine lv_goto (tgt := 203) hx hb dX12_dealt_139 (by decide) ?_
                  obtain ⟨v_61, ev_61⟩ : ∃ y : Int32, y = x4_12 + 1 := ⟨_, rfl⟩
                  refine lv_iinc (v := v_61) (lv' := [(4, .int v_61), (3, .int x3_12), (2, .int v_6), (0, .ref mo), (1, .int n)]) hx hb dX12_dealt_203 hl (k := 0) rfl (by rw [ev_61]; rfl) (by decide) rfl (fun ls hl => ?_)
                  have q_62 : v_61.toInt = x4_12.toInt + 1 := by have := ow_add ev_61 (by omega) (by omega); omega
                  refine lv_goto (tgt := 119) hx hb dX12_dealt_206 (by decide) ?_
                  refine W.widen (k := 0) (n := 0) (Nat.le_of_ble_eq_true rfl) (Nat.le_of_ble_eq_true rfl) ?_
                  exact ih_12 v_61 x3_12 v12 nm12 f12 g12 _ _ _ hv hf hR hL (by omega) (by omega) hP hD hS (lv_sub hl [0, 1, 2, 3, 4] rfl)
          exact lp_12 _ (1) (0) v9 nm9 f9 g9 _ _ _ hv hf hR hL (by omega) (Nat.lt_succ_self _) hP hD hS (lv_sub hl [0, 1, 2, 3, 4] rfl)
        · have q_63 : x3_9.toInt < v_6.toInt := by have := (not_congr (ow_le _ _)).mp c_10; omega
          refine lv_aload_n hx hb dX12_dealt_29 rfl (lv_at hl 2 rfl) ?_
          refine mg_38 hx hb ht hown hK hP dX12_dealt_30 ?_
          refine lv_iload_n hx hb dX12_dealt_33 rfl (lv_at hl 0 rfl) ?_
          refine lv_iconst (v := 0) hx hb dX12_dealt_34 (by decide) ?_
          have q_64 : vp_in x3_9 14 := vp_in_iff.mpr ⟨by omega, by omega⟩
          refine ms_38 hx hb hK hP hD hS q_64 dX12_dealt_35 (fun H locs hP hD hS => ?_)
          have hf := MIf.up 38 (i := (Int32.toNatClampNeg x3_9)) hf (ow_any (0 : Int32))
          have hL : WL v9 (va_up f9 38 (upd (f9 38) (Int32.toNatClampNeg x3_9) 0)) := WL.upf 38 hL (by decide)
          have hR : RI v9 (va_up f9 38 (upd (f9 38) (Int32.toNatClampNeg x3_9) 0)) := RI.up 38 hR (by decide)
          refine lv_iconst (v := 0) hx hb dX12_dealt_36 (by decide) ?_
          refine lv_istore (lv' := [(4, .int 0), (3, .int x3_9), (2, .int v_6), (0, .ref mo), (1, .int n)]) hx hb dX12_dealt_37 hl (by decide) rfl (fun ls hl => ?_)
          refine W.widen (k := 0) (n := 0) (Nat.le_of_ble_eq_true rfl) (Nat.le_of_ble_eq_true rfl) ?_
          have lp_65 : ∀ (N_65 : Nat) (x4_65 : Int32) (v65 : Nat → Int32) (nm65 : Int64) (f65 : Nat → Nat → Int32) (g65 : Nat → Nat → Int64) (H : Heap) (locs : List Loc) (ls : Array Slot), MIv T v65 → MIf f65 → RI v65 f65 → WL v65 f65 → (0 ≤ x4_65.toInt ∧ x4_65.toInt ≤ 14) → (14 - x4_65.toInt).toNat < N_65 → va_P G vwCl (WMs cy mo h v65 nm65 f65 g65) H → va_D A (WMs cy mo h v65 nm65 f65 g65) → va_S A s.heap H locs → lv_has ls 7 [(4, .int x4_65), (3, .int x3_9), (2, .int v_6), (0, .ref mo), (1, .int n)] → W p l e (headSpec (.code yX12_dealt cX12_dealt 7 (some .int) :: TBg) ({ frames := 5, cells := 0, slots := 0, locals := 320 })).room s m ([.ref mo, .int n] : List Value).toArray below meth c H locs 0 0 (MQ below (va_Qi (fun (r : Int32) (u : (Nat → Int32) × Int64 × (Nat → Nat → Int32) × (Nat → Nat → Int64)) => MIv T u.1 ∧ MIf u.2.2.1 ∧ RI u.1 u.2.2.1 ∧ WL u.1 u.2.2.1 ∧ (True)) (fun u t => Ex G A (WMs cy mo h u.1 u.2.1 u.2.2.1 u.2.2.2) t) A) ([.ref mo, .int n] : List Value).toArray s 0 0 A) (F0 m 39 ls []) := by
            intro N_65
            induction N_65 with
            | zero => intro x4_65 v65 nm65 f65 g65 H locs ls hv hf hR hL qf65_0 hm hP hD hS hl; exact absurd hm (Nat.not_lt_zero _)
            | succ N_65 ih_65 =>
              intro x4_65 v65 nm65 f65 g65 H locs ls hv hf hR hL qf65_0 hm hP hD hS hl
              refine lv_iload hx hb dX12_dealt_39 (lv_at hl 0 rfl) ?_
              refine lv_iload_n hx hb dX12_dealt_41 rfl (lv_at hl 2 rfl) ?_
              refine lv_icmp_ge (tgt := 108) hx hb dX12_dealt_42 (by decide) (fun c_66 => ?_) (fun c_66 => ?_)
              · have q_67 : v_6.toInt ≤ x4_65.toInt := (ow_le _ _).mp c_66
                obtain ⟨v_68, ev_68⟩ : ∃ y : Int32, y = x3_9 + 1 := ⟨_, rfl⟩
                refine lv_iinc (v := v_68) (lv' := [(3, .int v_68), (4, .int x4_65), (2, .int v_6), (0, .ref mo), (1, .int n)]) hx hb dX12_dealt_108 hl (k := 1) rfl (by rw [ev_68]; rfl) (by decide) rfl (fun ls hl => ?_)
                have q_69 : v_68.toInt = x3_9.toInt + 1 := by have := ow_add ev_68 (by omega) (by omega); omega
                refine lv_goto (tgt := 24) hx hb dX12_dealt_111 (by decide) ?_
                refine W.widen (k := 0) (n := 0) (Nat.le_of_ble_eq_true rfl) (Nat.le_of_ble_eq_true rfl) ?_
                exact ih_9 v_68 v65 nm65 f65 g65 _ _ _ hv hf hR hL (by omega) (by omega) hP hD hS (lv_sub hl [0, 2, 3, 4] rfl)
              · have q_70 : x4_65.toInt < v_6.toInt := by have := (not_congr (ow_le _ _)).mp c_66; omega
                refine lv_iload_n hx hb dX12_dealt_45 rfl (lv_at hl 1 rfl) ?_
                refine lv_iload hx hb dX12_dealt_46 (lv_at hl 0 rfl) ?_
                refine lv_icmp_eq (tgt := 102) hx hb dX12_dealt_48 (by decide) (fun c_71 => ?_) (fun c_71 => ?_)
                · have q_72 : x3_9.toInt = x4_65.toInt := (ow_eq _ _).mp c_71
                  obtain ⟨v_73, ev_73⟩ : ∃ y : Int32, y = x4_65 + 1 := ⟨_, rfl⟩
                  refine lv_iinc (v := v_73) (lv' := [(4, .int v_73), (3, .int x3_9), (2, .int v_6), (0, .ref mo), (1, .int n)]) hx hb dX12_dealt_102 hl (k := 0) rfl (by rw [ev_73]; rfl) (by decide) rfl (fun ls hl => ?_)
                  have q_74 : v_73.toInt = x4_65.toInt + 1 := by have := ow_add ev_73 (by omega) (by omega); omega
                  refine lv_goto (tgt := 39) hx hb dX12_dealt_105 (by decide) ?_
                  refine W.widen (k := 0) (n := 0) (Nat.le_of_ble_eq_true rfl) (Nat.le_of_ble_eq_true rfl) ?_
                  exact ih_65 v_73 v65 nm65 f65 g65 _ _ _ hv hf hR hL (by omega) (by omega) hP hD hS (lv_sub hl [0, 1, 2, 3, 4] rfl)
                · have q_75 : ¬ x3_9.toInt = x4_65.toInt := by have := (not_congr (ow_eq _ _)).mp c_71; omega
                  refine lv_aload_n hx hb dX12_dealt_51 rfl (lv_at hl 3 rfl) ?_
                  refine lv_aload_n hx hb dX12_dealt_52 rfl (lv_at hl 3 rfl) ?_
                  refine lv_iload_n hx hb dX12_dealt_53 rfl (lv_at hl 1 rfl) ?_
                  have hFc := fr_new hS hA
                  refine va_calli (va_runV (As := [.int x3_9]) (rest := [.ref mo]) ⟨hx, hb, hml, hown, ht⟩ (m_songOf l G cy _ mo h T v65 nm65 f65 g65 x3_9  hv hf hR hL (by omega)) (cwV 1 ht (gv k_94 k_95 k_96 k_61 k_93) rfl rfl rfl (by decide +kernel) ⟨Nat.le_of_ble_eq_true rfl, Nat.le_of_ble_eq_true rfl⟩) ⟨En.blind, va_recv hK hP (ci := 12) (q0 := 0) rfl rfl, fun U hU hW => ⟨rfl, En.of hU hW hP hK hD hN⟩⟩ rfl rfl hl.1 rfl (lv_room (Nat.le_of_ble_eq_true rfl)) dX12_dealt_54 ⟨Nat.le_of_ble_eq_true rfl, Nat.le_of_ble_eq_true rfl⟩) hS (fun q _ h => hFc q h) hFc (fun r_u_76 u_76 t9 H locs ht9 hvm hw hB hz1 hk1 hS => ?_)
                  have hP := fr_keep hP hk1
                  have wu_76 := hw
                  clear hFc hk1 hz1 hB hw
                  have wu_76 : (0 ≤ r_u_76.toInt ∧ r_u_76.toInt ≤ 27) ∧ r_u_76.toInt = 14 * (v65 29).toInt + x3_9.toInt := wu_76
                  refine lv_aload_n hx hb dX12_dealt_57 rfl (lv_at hl 3 rfl) ?_
                  refine lv_iload hx hb dX12_dealt_58 (lv_at hl 0 rfl) ?_
                  have hFc := fr_new hS hA
                  refine va_calli (va_runV (As := [.int x4_65]) (rest := [.int r_u_76, .ref mo]) ⟨hx, hb, hml, hown, ht⟩ (m_songOf l G cy _ mo h T v65 nm65 f65 g65 x4_65  hv hf hR hL (by omega)) (cwV 1 ht (gv k_94 k_95 k_96 k_61 k_93) rfl rfl rfl (by decide +kernel) ⟨Nat.le_of_ble_eq_true rfl, Nat.le_of_ble_eq_true rfl⟩) ⟨En.blind, va_recv hK hP (ci := 12) (q0 := 0) rfl rfl, fun U hU hW => ⟨rfl, En.of hU hW hP hK hD hN⟩⟩ rfl rfl hl.1 rfl (lv_room (Nat.le_of_ble_eq_true rfl)) dX12_dealt_60 ⟨Nat.le_of_ble_eq_true rfl, Nat.le_of_ble_eq_true rfl⟩) hS (fun q _ h => hFc q h) hFc (fun r_u_77 u_77 t9 H locs ht9 hvm hw hB hz1 hk1 hS => ?_)
                  have hP := fr_keep hP hk1
                  have wu_77 := hw
                  clear hFc hk1 hz1 hB hw
                  have wu_77 : (0 ≤ r_u_77.toInt ∧ r_u_77.toInt ≤ 27) ∧ r_u_77.toInt = 14 * (v65 29).toInt + x4_65.toInt := wu_77
                  refine lv_iload_n hx hb dX12_dealt_63 rfl (lv_at hl 4 rfl) ?_
                  have hFc := fr_new hS hA
                  refine va_calli (va_runV (As := [.int r_u_76, .int r_u_77, .int n]) (rest := []) ⟨hx, hb, hml, hown, ht⟩ (m_isWithin l G cy _ mo h T v65 nm65 f65 g65 r_u_76 r_u_77 n  hv hf hR hL (by omega) (by omega)) (cwV 3 ht (gv k_127 k_128 k_129 k_61 k_126) rfl rfl rfl (by decide +kernel) ⟨Nat.le_of_ble_eq_true rfl, Nat.le_of_ble_eq_true rfl⟩) ⟨En.blind, va_recv hK hP (ci := 12) (q0 := 0) rfl rfl, fun U hU hW => ⟨rfl, En.of hU hW hP hK hD hN⟩⟩ rfl rfl hl.1 rfl (lv_room (Nat.le_of_ble_eq_true rfl)) dX12_dealt_64 ⟨Nat.le_of_ble_eq_true rfl, Nat.le_of_ble_eq_true rfl⟩) hS (fun q _ h => hFc q h) hFc (fun r_u_78 u_78 t9 H locs ht9 hvm hw hB hz1 hk1 hS => ?_)
                  have hP := fr_keep hP hk1
                  have wu_78 := hw
                  clear hFc hk1 hz1 hB hw
                  have wu_78 : (r_u_78.toInt = 0 ∨ r_u_78.toInt = 1) := wu_78
                  refine lv_if_ne (tgt := 89) hx hb dX12_dealt_67 (by decide) (fun c_79 => ?_) (fun c_79 => ?_)
                  · have q_80 : ¬ r_u_78.toInt = (0 : Int32).toInt := by have := (not_congr (ow_eq _ _)).mp c_79; omega
                    refine lv_aload_n hx hb dX12_dealt_89 rfl (lv_at hl 3 rfl) ?_
                    refine mg_38 hx hb ht hown hK hP dX12_dealt_90 ?_
                    refine lv_iload_n hx hb dX12_dealt_93 rfl (lv_at hl 1 rfl) ?_
                    refine lv_dup2_11 hx hb dX12_dealt_94 rfl rfl ?_
                    have q_81 : vp_in x3_9 14 := vp_in_iff.mpr ⟨by omega, by omega⟩
                    refine ml_38 hx hb hK hP q_81 dX12_dealt_95 ?_
                    refine lv_topi (fun v_82 ev_82 => ?_)
                    refine lv_iconst (v := 1) hx hb dX12_dealt_96 (by decide) ?_
                    refine lv_iload hx hb dX12_dealt_97 (lv_at hl 0 rfl) ?_
                    refine lv_ishl hx hb dX12_dealt_99 ?_
                    refine lv_topi (fun v_83 ev_83 => ?_)
                    have q_84 : -2147483648 ≤ v_83.toInt ∧ v_83.toInt ≤ 2147483647 := ow_any v_83
                    refine lv_ior hx hb dX12_dealt_100 ?_
                    refine lv_topi (fun v_85 ev_85 => ?_)
                    have q_86 : vp_in x3_9 14 := vp_in_iff.mpr ⟨by omega, by omega⟩
                    refine ms_38 hx hb hK hP hD hS q_86 dX12_dealt_101 (fun H locs hP hD hS => ?_)
                    have hf := MIf.up 38 (i := (Int32.toNatClampNeg x3_9)) hf (ow_any v_85)
                    have hL : WL v65 (va_up f65 38 (upd (f65 38) (Int32.toNatClampNeg x3_9) v_85)) := WL.upf 38 hL (by decide)
                    have hR : RI v65 (va_up f65 38 (upd (f65 38) (Int32.toNatClampNeg x3_9) v_85)) := RI.up 38 hR (by decide)
                    obtain ⟨v_87, ev_87⟩ : ∃ y : Int32, y = x4_65 + 1 := ⟨_, rfl⟩
                    refine lv_iinc (v := v_87) (lv' := [(4, .int v_87), (3, .int x3_9), (2, .int v_6), (0, .ref mo), (1, .int n)]) hx hb dX12_dealt_102 hl (k := 0) rfl (by rw [ev_87]; rfl) (by decide) rfl (fun ls hl => ?_)
                    have q_88 : v_87.toInt = x4_65.toInt + 1 := by have := ow_add ev_87 (by omega) (by omega); omega
                    refine lv_goto (tgt := 39) hx hb dX12_dealt_105 (by decide) ?_
                    refine W.widen (k := 0) (n := 0) (Nat.le_of_ble_eq_true rfl) (Nat.le_of_ble_eq_true rfl) ?_
                    exact ih_65 v_87 v65 nm65 (va_up f65 38 (upd (f65 38) (Int32.toNatClampNeg x3_9) v_85)) g65 _ _ _ hv hf hR hL (by omega) (by omega) hP hD hS (lv_sub hl [0, 1, 2, 3, 4] rfl)
                  · have q_89 : r_u_78.toInt = (0 : Int32).toInt := (ow_eq _ _).mp c_79
                    refine lv_aload_n hx hb dX12_dealt_70 rfl (lv_at hl 3 rfl) ?_
                    refine lv_aload_n hx hb dX12_dealt_71 rfl (lv_at hl 3 rfl) ?_
                    refine lv_iload hx hb dX12_dealt_72 (lv_at hl 0 rfl) ?_
                    have hFc := fr_new hS hA
                    refine va_calli (va_runV (As := [.int x4_65]) (rest := [.ref mo]) ⟨hx, hb, hml, hown, ht⟩ (m_songOf l G cy _ mo h T v65 nm65 f65 g65 x4_65  hv hf hR hL (by omega)) (cwV 1 ht (gv k_94 k_95 k_96 k_61 k_93) rfl rfl rfl (by decide +kernel) ⟨Nat.le_of_ble_eq_true rfl, Nat.le_of_ble_eq_true rfl⟩) ⟨En.blind, va_recv hK hP (ci := 12) (q0 := 0) rfl rfl, fun U hU hW => ⟨rfl, En.of hU hW hP hK hD hN⟩⟩ rfl rfl hl.1 rfl (lv_room (Nat.le_of_ble_eq_true rfl)) dX12_dealt_74 ⟨Nat.le_of_ble_eq_true rfl, Nat.le_of_ble_eq_true rfl⟩) hS (fun q _ h => hFc q h) hFc (fun r_u_90 u_90 t9 H locs ht9 hvm hw hB hz1 hk1 hS => ?_)
                    have hP := fr_keep hP hk1
                    have wu_90 := hw
                    clear hFc hk1 hz1 hB hw
                    have wu_90 : (0 ≤ r_u_90.toInt ∧ r_u_90.toInt ≤ 27) ∧ r_u_90.toInt = 14 * (v65 29).toInt + x4_65.toInt := wu_90
                    refine lv_aload_n hx hb dX12_dealt_77 rfl (lv_at hl 3 rfl) ?_
                    refine lv_iload_n hx hb dX12_dealt_78 rfl (lv_at hl 1 rfl) ?_
                    have hFc := fr_new hS hA
                    refine va_calli (va_runV (As := [.int x3_9]) (rest := [.int r_u_90, .ref mo]) ⟨hx, hb, hml, hown, ht⟩ (m_songOf l G cy _ mo h T v65 nm65 f65 g65 x3_9  hv hf hR hL (by omega)) (cwV 1 ht (gv k_94 k_95 k_96 k_61 k_93) rfl rfl rfl (by decide +kernel) ⟨Nat.le_of_ble_eq_true rfl, Nat.le_of_ble_eq_true rfl⟩) ⟨En.blind, va_recv hK hP (ci := 12) (q0 := 0) rfl rfl, fun U hU hW => ⟨rfl, En.of hU hW hP hK hD hN⟩⟩ rfl rfl hl.1 rfl (lv_room (Nat.le_of_ble_eq_true rfl)) dX12_dealt_79 ⟨Nat.le_of_ble_eq_true rfl, Nat.le_of_ble_eq_true rfl⟩) hS (fun q _ h => hFc q h) hFc (fun r_u_91 u_91 t9 H locs ht9 hvm hw hB hz1 hk1 hS => ?_)
                    have hP := fr_keep hP hk1
                    have wu_91 := hw
                    clear hFc hk1 hz1 hB hw
                    have wu_91 : (0 ≤ r_u_91.toInt ∧ r_u_91.toInt ≤ 27) ∧ r_u_91.toInt = 14 * (v65 29).toInt + x3_9.toInt := wu_91
                    refine lv_iload_n hx hb dX12_dealt_82 rfl (lv_at hl 4 rfl) ?_
                    have hFc := fr_new hS hA
                    refine va_calli (va_runV (As := [.int r_u_90, .int r_u_91, .int n]) (rest := []) ⟨hx, hb, hml, hown, ht⟩ (m_isWithin l G cy _ mo h T v65 nm65 f65 g65 r_u_90 r_u_91 n  hv hf hR hL (by omega) (by omega)) (cwV 3 ht (gv k_127 k_128 k_129 k_61 k_126) rfl rfl rfl (by decide +kernel) ⟨Nat.le_of_ble_eq_true rfl, Nat.le_of_ble_eq_true rfl⟩) ⟨En.blind, va_recv hK hP (ci := 12) (q0 := 0) rfl rfl, fun U hU hW => ⟨rfl, En.of hU hW hP hK hD hN⟩⟩ rfl rfl hl.1 rfl (lv_room (Nat.le_of_ble_eq_true rfl)) dX12_dealt_83 ⟨Nat.le_of_ble_eq_true rfl, Nat.le_of_ble_eq_true rfl⟩) hS (fun q _ h => hFc q h) hFc (fun r_u_92 u_92 t9 H locs ht9 hvm hw hB hz1 hk1 hS => ?_)
                    have hP := fr_keep hP hk1
                    have wu_92 := hw
                    clear hFc hk1 hz1 hB hw
                    have wu_92 : (r_u_92.toInt = 0 ∨ r_u_92.toInt = 1) := wu_92
                    refine lv_if_eq (tgt := 102) hx hb dX12_dealt_86 (by decide) (fun c_93 => ?_) (fun c_93 => ?_)
                    · have q_94 : r_u_92.toInt = (0 : Int32).toInt := (ow_eq _ _).mp c_93
                      obtain ⟨v_95, ev_95⟩ : ∃ y : Int32, y = x4_65 + 1 := ⟨_, rfl⟩
                      refine lv_iinc (v := v_95) (lv' := [(4, .int v_95), (3, .int x3_9), (2, .int v_6), (0, .ref mo), (1, .int n)]) hx hb dX12_dealt_102 hl (k := 0) rfl (by rw [ev_95]; rfl) (by decide) rfl (fun ls hl => ?_)
                      have q_96 : v_95.toInt = x4_65.toInt + 1 := by have := ow_add ev_95 (by omega) (by omega); omega
                      refine lv_goto (tgt := 39) hx hb dX12_dealt_105 (by decide) ?_
                      refine W.widen (k := 0) (n := 0) (Nat.le_of_ble_eq_true rfl) (Nat.le_of_ble_eq_true rfl) ?_
                      exact ih_65 v_95 v65 nm65 f65 g65 _ _ _ hv hf hR hL (by omega) (by omega) hP hD hS (lv_sub hl [0, 1, 2, 3, 4] rfl)
                    · have q_97 : ¬ r_u_92.toInt = (0 : Int32).toInt := by have := (not_congr (ow_eq _ _)).mp c_93; omega
                      refine lv_aload_n hx hb dX12_dealt_89 rfl (lv_at hl 3 rfl) ?_
                      refine mg_38 hx hb ht hown hK hP dX12_dealt_90 ?_
                      refine lv_iload_n hx hb dX12_dealt_93 rfl (lv_at hl 1 rfl) ?_
                      refine lv_dup2_11 hx hb dX12_dealt_94 rfl rfl ?_
                      have q_98 : vp_in x3_9 14 := vp_in_iff.mpr ⟨by omega, by omega⟩
                      refine ml_38 hx hb hK hP q_98 dX12_dealt_95 ?_
                      refine lv_topi (fun v_99 ev_99 => ?_)
                      refine lv_iconst (v := 1) hx hb dX12_dealt_96 (by decide) ?_
                      refine lv_iload hx hb dX12_dealt_97 (lv_at hl 0 rfl) ?_
                      refine lv_ishl hx hb dX12_dealt_99 ?_
                      refine lv_topi (fun v_100 ev_100 => ?_)
                      have q_101 : -2147483648 ≤ v_100.toInt ∧ v_100.toInt ≤ 2147483647 := ow_any v_100
                      refine lv_ior hx hb dX12_dealt_100 ?_
                      refine lv_topi (fun v_102 ev_102 => ?_)
                      have q_103 : vp_in x3_9 14 := vp_in_iff.mpr ⟨by omega, by omega⟩
                      refine ms_38 hx hb hK hP hD hS q_103 dX12_dealt_101 (fun H locs hP hD hS => ?_)
                      have hf := MIf.up 38 (i := (Int32.toNatClampNeg x3_9)) hf (ow_any v_102)
                      have hL : WL v65 (va_up f65 38 (upd (f65 38) (Int32.toNatClampNeg x3_9) v_102)) := WL.upf 38 hL (by decide)
                      have hR : RI v65 (va_up f65 38 (upd (f65 38) (Int32.toNatClampNeg x3_9) v_102)) := RI.up 38 hR (by decide)
                      obtain ⟨v_104, ev_104⟩ : ∃ y : Int32, y = x4_65 + 1 := ⟨_, rfl⟩
                      refine lv_iinc (v := v_104) (lv' := [(4, .int v_104), (3, .int x3_9), (2, .int v_6), (0, .ref mo), (1, .int n)]) hx hb dX12_dealt_102 hl (k := 0) rfl (by rw [ev_104]; rfl) (by decide) rfl (fun ls hl => ?_)
                      have q_105 : v_104.toInt = x4_65.toInt + 1 := by have := ow_add ev_104 (by omega) (by omega); omega
                      refine lv_goto (tgt := 39) hx hb dX12_dealt_105 (by decide) ?_
                      refine W.widen (k := 0) (n := 0) (Nat.le_of_ble_eq_true rfl) (Nat.le_of_ble_eq_true rfl) ?_
                      exact ih_65 v_104 v65 nm65 (va_up f65 38 (upd (f65 38) (Int32.toNatClampNeg x3_9) v_102)) g65 _ _ _ hv hf hR hL (by omega) (by omega) hP hD hS (lv_sub hl [0, 1, 2, 3, 4] rfl)
          exact lp_65 _ (0) v9 nm9 (va_up f9 38 (upd (f9 38) (Int32.toNatClampNeg x3_9) 0)) g9 _ _ _ hv hf hR hL (by omega) (Nat.lt_succ_self _) hP hD hS (lv_sub hl [0, 1, 2, 3, 4] rfl)
    exact lp_9 _ (0) v nm f g _ _ _ hv hf hR hL (by omega) (Nat.lt_succ_self _) hP hD hS (lv_sub hl [0, 1, 2, 3] rfl)
  · have q_106 : r_u_1.toInt = (0 : Int32).toInt := (ow_eq _ _).mp c_2
    refine lv_iconst (v := (-1)) hx hb dX12_dealt_10 (by decide) ?_
    refine W.widen (k := 0) (n := 0) (Nat.le_of_ble_eq_true rfl) (Nat.le_of_ble_eq_true rfl) ?_
    exact W.iret (v := (-1)) hx hb hr (fun t ht9 hW => ⟨⟨(-1), (v, nm, f, g), rfl, ⟨hv, hf, hR, hL, trivial⟩, ⟨by rw [ht9]; exact hP, hD⟩⟩, hS.F ht9⟩) hS.2.2 dX12_dealt_11
set_option maxHeartbeats 4000000 in
set_option maxRecDepth 100000 in
theorem m_keepTunes (l : Launch) (G : va_G) (cy : Nat → ClassId) (sz : Nat) (mo : Nat) (h : Nat → Nat) (T : Int) (v : Nat → Int32) (nm : Int64) (f : Nat → Nat → Int32) (g : Nat → Nat → Int64) (n : Int32)  (hv : MIv T v) (hf : MIf f) (hR : RI v f) (hL : WL v f) (hbit : bts n 31 ≤ 6) : Met l yX12_keepTunes (.code yX12_keepTunes cX12_keepTunes 5 none :: TBg) ({ frames := 6, cells := 0, slots := 0, locals := 384 }) (va_Pc [.ref mo, .int n] (En G cy (WMs cy mo h v nm f g) sz)) (va_Qv (fun (u : (Nat → Int32) × Int64 × (Nat → Nat → Int32) × (Nat → Nat → Int64)) => MIv T u.1 ∧ MIf u.2.2.1 ∧ RI u.1 u.2.2.1 ∧ WL u.1 u.2.2.1 ∧ FV [43] v u.1 ∧ FF [41, 42] f u.2.2.1 ∧ (True)) (fun u t => Ex G (va_A (WMs cy mo h v nm f g) sz) (WMs cy mo h u.1 u.2.1 u.2.2.1 u.2.2.2) t) (va_A (WMs cy mo h v nm f g) sz)) 0 0 (va_A (WMs cy mo h v nm f g) sz) := by
  refine Met.ofW (cc := cX12_keepTunes) (maxL := 5) (ret := none) (by decide) rfl ?_
  intro p e s m args below meth c s₁ B hml hv9
  obtain ⟨rfl, hsz, hP, hK, hD0, hN⟩ := hv9
  have hx := B.exec
  have hb := B.bytes
  have hr := B.returns
  have hts := atoms_spec (ws := .code yX12_keepTunes cX12_keepTunes 5 none :: TBg) B.pre
  have ht : ∀ w ∈ TBg, w.before _ s = true := fun w h => hts w (List.mem_cons_of_mem _ h)
  have hown : s.vm.findClass RX12 = some m.cls := findClass_of_methodNamed B.named
  have hlocks := B.notSynchronized
  subst hsz
  have hD := hD0.self (sz := s.heap.size)
  generalize hAe : va_A (WMs cy mo h v nm f g) s.heap.size = A at hD ⊢
  have hA : ∀ q : Nat, s.heap.size ≤ q → A q := fun q h => by rw [← hAe]; exact Or.inr h
  have hS : va_S A s.heap s.heap [] := va_S.rf
  have hl := lv_entry ([.ref mo, .int n]) (n := 5) (Nat.le_of_ble_eq_true rfl)
  rw [lg_entry_eq]
  generalize (lg_sl ([.ref mo, .int n]) ++ List.replicate (5 - (lg_sl ([.ref mo, .int n])).length) Slot.unset).toArray = ls at hl ⊢
  have hl : lv_has ls 5 [(0, .ref mo), (1, .int n)] := hl
  have z0 : (0 : Int32).toInt = 0 := by decide
  have z1 : (1 : Int32).toInt = 1 := by decide
  have z2 : (6 : Int32).toInt = 6 := by decide
  have hf_0 := hf
  have hV_0 : FV [43] v v := FV.rf
  have hF_0 : FF [41, 42] f f := FF.rf
  refine lv_aload_n hx hb dX12_keepTunes_0 rfl (lv_at hl 0 rfl) ?_
  refine lv_iconst (v := 0) hx hb dX12_keepTunes_1 (by decide) ?_
  refine mp_43 hx hb ht hown hK hP hD hS dX12_keepTunes_2 (fun H locs hP hD hS => ?_)
  have hv := MIv.up 43 hv (show 0 ≤ (0 : Int32).toInt ∧ (0 : Int32).toInt ≤ 6 from by omega)
  have hL : WL (va_up v 43 0) f := WL.upv 43 hL (by decide)
  have hR : RI (va_up v 43 0) f := RI.upv 43 hR (by decide)
  have hV_0 := FV.up hV_0 43 (0) (by decide)
  refine lv_iconst (v := 0) hx hb dX12_keepTunes_5 (by decide) ?_
  refine lv_istore_n (lv' := [(2, .int 0), (0, .ref mo), (1, .int n)]) hx hb dX12_keepTunes_6 rfl hl (by decide) rfl (fun ls hl => ?_)
  refine W.widen (k := 0) (n := 0) (Nat.le_of_ble_eq_true rfl) (Nat.le_of_ble_eq_true rfl) ?_
  have lp_1 : ∀ (N_1 : Nat) (x2_1 : Int32) (v1 : Nat → Int32) (nm1 : Int64) (f1 : Nat → Nat → Int32) (g1 : Nat → Nat → Int64) (H : Heap) (locs : List Loc) (ls : Array Slot), MIv T v1 → MIf f1 → RI v1 f1 → WL v1 f1 → FV [43] (va_up v 43 0) v1 → FF [41] f f1 → (0 ≤ x2_1.toInt ∧ x2_1.toInt ≤ 14) → (0 ≤ (v1 43).toInt ∧ (v1 43).toInt ≤ 6) → ((v1 43).toInt ≤ bts n (Int32.toNatClampNeg x2_1)) → (14 - x2_1.toInt).toNat < N_1 → va_P G vwCl (WMs cy mo h v1 nm1 f1 g1) H → va_D A (WMs cy mo h v1 nm1 f1 g1) → va_S A s.heap H locs → lv_has ls 5 [(2, .int x2_1), (0, .ref mo), (1, .int n)] → W p l e (headSpec (.code yX12_keepTunes cX12_keepTunes 5 none :: TBg) ({ frames := 6, cells := 0, slots := 0, locals := 384 })).room s m ([.ref mo, .int n] : List Value).toArray below meth c H locs 0 0 (MQ below (va_Qv (fun (u : (Nat → Int32) × Int64 × (Nat → Nat → Int32) × (Nat → Nat → Int64)) => MIv T u.1 ∧ MIf u.2.2.1 ∧ RI u.1 u.2.2.1 ∧ WL u.1 u.2.2.1 ∧ FV [43] v u.1 ∧ FF [41, 42] f u.2.2.1 ∧ (True)) (fun u t => Ex G A (WMs cy mo h u.1 u.2.1 u.2.2.1 u.2.2.2) t) A) ([.ref mo, .int n] : List Value).toArray s 0 0 A) (F0 m 7 ls []) := by
    intro N_1
    induction N_1 with
    | zero => intro x2_1 v1 nm1 f1 g1 H locs ls hv hf hR hL hV_1 hF_1 qf1_0 qf1_1 qf1_2 hm hP hD hS hl; exact absurd hm (Nat.not_lt_zero _)
    | succ N_1 ih_1 =>
      intro x2_1 v1 nm1 f1 g1 H locs ls hv hf hR hL hV_1 hF_1 qf1_0 qf1_1 qf1_2 hm hP hD hS hl
      have hV_0 := FV.tr hV_0 hV_1 (by decide)
      have hF_0 := FF.tr hF_0 hF_1 (by decide)
      have hW_1 := hV_1
      have hY_1 := hF_1
      refine lv_iload_n hx hb dX12_keepTunes_7 rfl (lv_at hl 0 rfl) ?_
      refine lv_aload_n hx hb dX12_keepTunes_8 rfl (lv_at hl 1 rfl) ?_
      refine mg_11 hx hb ht hown hK hP dX12_keepTunes_9 ?_
      refine lv_aload_n hx hb dX12_keepTunes_12 rfl (lv_at hl 1 rfl) ?_
      refine mg_29 hx hb ht hown hK hP dX12_keepTunes_13 ?_
      refine ow_top (v 29) (hV_1 29 (by decide)) ?_
      have q_2 : 0 ≤ (v 29).toInt ∧ (v 29).toInt ≤ 1 := by have h9 : v1 29 = (v 29) := (hV_1 29 (by decide)); rw [← h9]; exact hv 29
      have q_3 : vp_in (v 29) 2 := vp_in_iff.mpr ⟨by omega, by omega⟩
      refine ml_11 hx hb hK hP q_3 dX12_keepTunes_16 ?_
      refine lv_topi (fun v_4 ev_4 => ?_)
      have q_5 : 0 ≤ v_4.toInt ∧ v_4.toInt ≤ 14 := by rw [ev_4]; exact MIf.rd 11 hf q_3
      have q_6 : v_4.toInt = ((f 11) (Int32.toNatClampNeg (v 29))).toInt := (congrArg Int32.toInt ev_4).trans (congrArg (fun z : Nat → Int32 => (z (Int32.toNatClampNeg (v 29))).toInt) (show f1 11 = (f 11) from (hF_1 11 (by decide))))
      refine lv_icmp_ge (tgt := 135) hx hb dX12_keepTunes_17 (by decide) (fun c_7 => ?_) (fun c_7 => ?_)
      · have q_8 : v_4.toInt ≤ x2_1.toInt := (ow_le _ _).mp c_7
        refine lv_iconst (v := 0) hx hb dX12_keepTunes_135 (by decide) ?_
        refine lv_istore_n (lv' := [(2, .int 0), (0, .ref mo), (1, .int n)]) hx hb dX12_keepTunes_136 rfl hl (by decide) rfl (fun ls hl => ?_)
        refine W.widen (k := 0) (n := 0) (Nat.le_of_ble_eq_true rfl) (Nat.le_of_ble_eq_true rfl) ?_
        have lp_9 : ∀ (N_9 : Nat) (x2_9 : Int32) (v9 : Nat → Int32) (nm9 : Int64) (f9 : Nat → Nat → Int32) (g9 : Nat → Nat → Int64) (H : Heap) (locs : List Loc) (ls : Array Slot), MIv T v9 → MIf f9 → RI v9 f9 → WL v9 f9 → FV [] v1 v9 → FF [42] f1 f9 → (0 ≤ x2_9.toInt ∧ x2_9.toInt ≤ 6) → (6 - x2_9.toInt).toNat < N_9 → va_P G vwCl (WMs cy mo h v9 nm9 f9 g9) H → va_D A (WMs cy mo h v9 nm9 f9 g9) → va_S A s.heap H locs → lv_has ls 5 [(2, .int x2_9), (0, .ref mo), (1, .int n)] → W p l e (headSpec (.code yX12_keepTunes cX12_keepTunes 5 none :: TBg) ({ frames := 6, cells := 0, slots := 0, locals := 384 })).room s m ([.ref mo, .int n] : List Value).toArray below meth c H locs 0 0 (MQ below (va_Qv (fun (u : (Nat → Int32) × Int64 × (Nat → Nat → Int32) × (Nat → Nat → Int64)) => MIv T u.1 ∧ MIf u.2.2.1 ∧ RI u.1 u.2.2.1 ∧ WL u.1 u.2.2.1 ∧ FV [43] v u.1 ∧ FF [41, 42] f u.2.2.1 ∧ (True)) (fun u t => Ex G A (WMs cy mo h u.1 u.2.1 u.2.2.1 u.2.2.2) t) A) ([.ref mo, .int n] : List Value).toArray s 0 0 A) (F0 m 137 ls []) := by
          intro N_9
          induction N_9 with
          | zero => intro x2_9 v9 nm9 f9 g9 H locs ls hv hf hR hL hV_9 hF_9 qf9_0 hm hP hD hS hl; exact absurd hm (Nat.not_lt_zero _)
          | succ N_9 ih_9 =>
            intro x2_9 v9 nm9 f9 g9 H locs ls hv hf hR hL hV_9 hF_9 qf9_0 hm hP hD hS hl
            have hV_0 := FV.tr hV_0 hV_9 (by decide)
            have hF_0 := FF.tr hF_0 hF_9 (by decide)
            have hW_9 := hV_9
            have hY_9 := hF_9
            refine lv_iload_n hx hb dX12_keepTunes_137 rfl (lv_at hl 0 rfl) ?_
            refine lv_aload_n hx hb dX12_keepTunes_138 rfl (lv_at hl 1 rfl) ?_
            refine mg_43 hx hb ht hown hK hP dX12_keepTunes_139 ?_
            refine ow_top (v1 43) (hV_9 43 (by decide)) ?_
            have q_10 : 0 ≤ (v1 43).toInt ∧ (v1 43).toInt ≤ 6 := by have h9 : v9 43 = (v1 43) := (hV_9 43 (by decide)); rw [← h9]; exact hv 43
            refine lv_icmp_ge (tgt := 203) hx hb dX12_keepTunes_142 (by decide) (fun c_11 => ?_) (fun c_11 => ?_)
            · have q_12 : (v1 43).toInt ≤ x2_9.toInt := (ow_le _ _).mp c_11
              refine W.widen (k := 0) (n := 0) (Nat.le_of_ble_eq_true rfl) (Nat.le_of_ble_eq_true rfl) ?_
              exact W.vret hx hb hr (fun t ht9 hW => ⟨⟨(v9, nm9, f9, g9), rfl, ⟨hv, hf, hR, hL, hV_0, hF_0, trivial⟩, ⟨by rw [ht9]; exact hP, hD⟩⟩, hS.F ht9⟩) hS.2.2 dX12_keepTunes_203
            · have q_13 : x2_9.toInt < (v1 43).toInt := by have := (not_congr (ow_le _ _)).mp c_11; omega
              refine lv_iconst (v := 0) hx hb dX12_keepTunes_145 (by decide) ?_
              refine lv_istore_n (lv' := [(3, .int 0), (2, .int x2_9), (0, .ref mo), (1, .int n)]) hx hb dX12_keepTunes_146 rfl hl (by decide) rfl (fun ls hl => ?_)
              refine W.widen (k := 0) (n := 0) (Nat.le_of_ble_eq_true rfl) (Nat.le_of_ble_eq_true rfl) ?_
              have lp_14 : ∀ (N_14 : Nat) (x3_14 : Int32) (v14 : Nat → Int32) (nm14 : Int64) (f14 : Nat → Nat → Int32) (g14 : Nat → Nat → Int64) (H : Heap) (locs : List Loc) (ls : Array Slot), MIv T v14 → MIf f14 → RI v14 f14 → WL v14 f14 → FV [] v9 v14 → FF [42] f9 f14 → (0 ≤ x3_14.toInt ∧ x3_14.toInt ≤ 6) → (6 - x3_14.toInt).toNat < N_14 → va_P G vwCl (WMs cy mo h v14 nm14 f14 g14) H → va_D A (WMs cy mo h v14 nm14 f14 g14) → va_S A s.heap H locs → lv_has ls 5 [(3, .int x3_14), (2, .int x2_9), (0, .ref mo), (1, .int n)] → W p l e (headSpec (.code yX12_keepTunes cX12_keepTunes 5 none :: TBg) ({ frames := 6, cells := 0, slots := 0, locals := 384 })).room s m ([.ref mo, .int n] : List Value).toArray below meth c H locs 0 0 (MQ below (va_Qv (fun (u : (Nat → Int32) × Int64 × (Nat → Nat → Int32) × (Nat → Nat → Int64)) => MIv T u.1 ∧ MIf u.2.2.1 ∧ RI u.1 u.2.2.1 ∧ WL u.1 u.2.2.1 ∧ FV [43] v u.1 ∧ FF [41, 42] f u.2.2.1 ∧ (True)) (fun u t => Ex G A (WMs cy mo h u.1 u.2.1 u.2.2.1 u.2.2.2) t) A) ([.ref mo, .int n] : List Value).toArray s 0 0 A) (F0 m 147 ls []) := by
                intro N_14
                induction N_14 with
                | zero => intro x3_14 v14 nm14 f14 g14 H locs ls hv hf hR hL hV_14 hF_14 qf14_0 hm hP hD hS hl; exact absurd hm (Nat.not_lt_zero _)
                | succ N_14 ih_14 =>
                  intro x3_14 v14 nm14 f14 g14 H locs ls hv hf hR hL hV_14 hF_14 qf14_0 hm hP hD hS hl
                  have hV_0 := FV.tr hV_0 hV_14 (by decide)
                  have hF_0 := FF.tr hF_0 hF_14 (by decide)
                  have hW_9 := FV.tr hW_9 hV_14 (by decide)
                  have hY_9 := FF.tr hY_9 hF_14 (by decide)
                  have hW_14 := hV_14
                  have hY_14 := hF_14
                  refine lv_iload_n hx hb dX12_keepTunes_147 rfl (lv_at hl 0 rfl) ?_
                  refine lv_aload_n hx hb dX12_keepTunes_148 rfl (lv_at hl 2 rfl) ?_
                  refine mg_43 hx hb ht hown hK hP dX12_keepTunes_149 ?_
                  refine ow_top (v1 43) ((hV_14 43 (by decide)).trans (hV_9 43 (by decide))) ?_
                  have q_15 : 0 ≤ (v1 43).toInt ∧ (v1 43).toInt ≤ 6 := by have h9 : v14 43 = (v1 43) := ((hV_14 43 (by decide)).trans (hV_9 43 (by decide))); rw [← h9]; exact hv 43
                  refine lv_icmp_ge (tgt := 197) hx hb dX12_keepTunes_152 (by decide) (fun c_16 => ?_) (fun c_16 => ?_)
                  · have q_17 : (v1 43).toInt ≤ x3_14.toInt := (ow_le _ _).mp c_16
                    obtain ⟨v_18, ev_18⟩ : ∃ y : Int32, y = x2_9 + 1 := ⟨_, rfl⟩
                    refine lv_iinc (v := v_18) (lv' := [(2, .int v_18), (3, .int x3_14), (0, .ref mo), (1, .int n)]) hx hb dX12_keepTunes_197 hl (k := 1) rfl (by rw [ev_18]; rfl) (by decide) rfl (fun ls hl => ?_)
                    have q_19 : v_18.toInt = x2_9.toInt + 1 := by have := ow_add ev_18 (by omega) (by omega); omega
                    refine lv_goto (tgt := 137) hx hb dX12_keepTunes_200 (by decide) ?_
                    refine W.widen (k := 0) (n := 0) (Nat.le_of_ble_eq_true rfl) (Nat.le_of_ble_eq_true rfl) ?_
                    exact ih_9 v_18 v14 nm14 f14 g14 _ _ _ hv hf hR hL hW_9 hY_9 (by omega) (by omega) hP hD hS (lv_sub hl [0, 2, 3] rfl)
                  · have q_20 : x3_14.toInt < (v1 43).toInt := by have := (not_congr (ow_le _ _)).mp c_16; omega
                    refine lv_aload_n hx hb dX12_keepTunes_155 rfl (lv_at hl 2 rfl) ?_
                    refine mg_42 hx hb ht hown hK hP dX12_keepTunes_156 ?_
                    refine lv_bipush (v := 6) hx hb dX12_keepTunes_159 (by decide) ?_
                    refine lv_iload_n hx hb dX12_keepTunes_161 rfl (lv_at hl 1 rfl) ?_
                    refine lv_imul hx hb dX12_keepTunes_162 ?_
                    refine lv_topi (fun v_21 ev_21 => ?_)
                    have q_22 : v_21.toInt = 6 * x2_9.toInt := ow_mul ev_21 (by decide) (by omega) (by omega)
                    refine lv_iload_n hx hb dX12_keepTunes_163 rfl (lv_at hl 0 rfl) ?_
                    refine lv_iadd hx hb dX12_keepTunes_164 ?_
                    refine lv_topi (fun v_23 ev_23 => ?_)
                    have q_24 : v_23.toInt = v_21.toInt + x3_14.toInt := ow_add ev_23 (by omega) (by omega)
                    refine lv_iload_n hx hb dX12_keepTunes_165 rfl (lv_at hl 1 rfl) ?_
                    refine lv_iload_n hx hb dX12_keepTunes_166 rfl (lv_at hl 0 rfl) ?_
                    refine lv_icmp_ne (tgt := 174) hx hb dX12_keepTunes_167 (by decide) (fun c_25 => ?_) (fun c_25 => ?_)
                    · have q_26 : ¬ x2_9.toInt = x3_14.toInt := by have := (not_congr (ow_eq _ _)).mp c_25; omega
                      refine lv_aload_n hx hb dX12_keepTunes_174 rfl (lv_at hl 2 rfl) ?_
                      refine lv_aload_n hx hb dX12_keepTunes_175 rfl (lv_at hl 2 rfl) ?_
                      refine mg_41 hx hb ht hown hK hP dX12_keepTunes_176 ?_
                      refine lv_iload_n hx hb dX12_keepTunes_179 rfl (lv_at hl 1 rfl) ?_
                      have q_27 : vp_in x2_9 6 := vp_in_iff.mpr ⟨by omega, by omega⟩
                      refine ml_41 hx hb hK hP q_27 dX12_keepTunes_180 ?_
                      refine lv_topi (fun v_28 ev_28 => ?_)
                      have q_29 : 0 ≤ v_28.toInt ∧ v_28.toInt ≤ 13 := by rw [ev_28]; exact MIf.rd 41 hf q_27
                      have q_30 : v_28.toInt = ((f1 41) (Int32.toNatClampNeg x2_9)).toInt := (congrArg Int32.toInt ev_28).trans (congrArg (fun z : Nat → Int32 => (z (Int32.toNatClampNeg x2_9)).toInt) (show f14 41 = (f1 41) from ((hF_14 41 (by decide)).trans (hF_9 41 (by decide)))))
                      refine lv_aload_n hx hb dX12_keepTunes_181 rfl (lv_at hl 2 rfl) ?_
                      refine mg_41 hx hb ht hown hK hP dX12_keepTunes_182 ?_
                      refine lv_iload_n hx hb dX12_keepTunes_185 rfl (lv_at hl 0 rfl) ?_
                      have q_31 : vp_in x3_14 6 := vp_in_iff.mpr ⟨by omega, by omega⟩
                      refine ml_41 hx hb hK hP q_31 dX12_keepTunes_186 ?_
                      refine lv_topi (fun v_32 ev_32 => ?_)
                      have q_33 : 0 ≤ v_32.toInt ∧ v_32.toInt ≤ 13 := by rw [ev_32]; exact MIf.rd 41 hf q_31
                      have q_34 : v_32.toInt = ((f1 41) (Int32.toNatClampNeg x3_14)).toInt := (congrArg Int32.toInt ev_32).trans (congrArg (fun z : Nat → Int32 => (z (Int32.toNatClampNeg x3_14)).toInt) (show f14 41 = (f1 41) from ((hF_14 41 (by decide)).trans (hF_9 41 (by decide)))))
                      have hFc := fr_new hS hA
                      refine va_calli (va_runV (As := [.int v_28, .int v_32]) (rest := [.int v_23, .ref (h 42)]) ⟨hx, hb, hml, hown, ht⟩ (m_overlap l G cy _ mo h T v14 nm14 f14 g14 v_28 v_32  hv hf hR hL (by omega) (by omega)) (cwV 2 ht (gv k_160 k_161 k_162 k_61 k_159) rfl rfl rfl (by decide +kernel) ⟨Nat.le_of_ble_eq_true rfl, Nat.le_of_ble_eq_true rfl⟩) ⟨En.blind, va_recv hK hP (ci := 12) (q0 := 0) rfl rfl, fun U hU hW => ⟨rfl, En.of hU hW hP hK hD hN⟩⟩ rfl rfl hl.1 rfl (lv_room (Nat.le_of_ble_eq_true rfl)) dX12_keepTunes_187 ⟨Nat.le_of_ble_eq_true rfl, Nat.le_of_ble_eq_true rfl⟩) hS (fun q _ h => hFc q h) hFc (fun r_u_35 u_35 t9 H locs ht9 hvm hw hB hz1 hk1 hS => ?_)
                      have hP := fr_keep hP hk1
                      have wu_35 := hw
                      clear hFc hk1 hz1 hB hw
                      have wu_35 : (-1 ≤ r_u_35.toInt ∧ r_u_35.toInt ≤ 11) := wu_35
                      have q_36 : vp_in v_23 36 := vp_in_iff.mpr ⟨by omega, by omega⟩
                      refine ms_42 hx hb hK hP hD hS q_36 dX12_keepTunes_190 (fun H locs hP hD hS => ?_)
                      have hf := MIf.up 42 (i := (Int32.toNatClampNeg v_23)) hf (ow_any r_u_35)
                      have hF_0 := FF.up hF_0 42 (upd (f14 42) (Int32.toNatClampNeg v_23) r_u_35) (by decide)
                      have hY_9 := FF.up hY_9 42 (upd (f14 42) (Int32.toNatClampNeg v_23) r_u_35) (by decide)
                      have hY_14 := FF.up hY_14 42 (upd (f14 42) (Int32.toNatClampNeg v_23) r_u_35) (by decide)
                      have hL : WL v14 (va_up f14 42 (upd (f14 42) (Int32.toNatClampNeg v_23) r_u_35)) := WL.upf 42 hL (by decide)
                      have hR : RI v14 (va_up f14 42 (upd (f14 42) (Int32.toNatClampNeg v_23) r_u_35)) := RI.up 42 hR (by decide)
                      obtain ⟨v_37, ev_37⟩ : ∃ y : Int32, y = x3_14 + 1 := ⟨_, rfl⟩
                      refine lv_iinc (v := v_37) (lv' := [(3, .int v_37), (2, .int x2_9), (0, .ref mo), (1, .int n)]) hx hb dX12_keepTunes_191 hl (k := 0) rfl (by rw [ev_37]; rfl) (by decide) rfl (fun ls hl => ?_)
                      have q_38 : v_37.toInt = x3_14.toInt + 1 := by have := ow_add ev_37 (by omega) (by omega); omega
                      refine lv_goto (tgt := 147) hx hb dX12_keepTunes_194 (by decide) ?_
                      refine W.widen (k := 0) (n := 0) (Nat.le_of_ble_eq_true rfl) (Nat.le_of_ble_eq_true rfl) ?_
                      exact ih_14 v_37 v14 nm14 (va_up f14 42 (upd (f14 42) (Int32.toNatClampNeg v_23) r_u_35)) g14 _ _ _ hv hf hR hL hW_14 hY_14 (by omega) (by omega) hP hD hS (lv_sub hl [0, 1, 2, 3] rfl)
                    · have q_39 : x2_9.toInt = x3_14.toInt := (ow_eq _ _).mp c_25
                      refine lv_iconst (v := 0) hx hb dX12_keepTunes_170 (by decide) ?_
                      refine lv_goto (tgt := 190) hx hb dX12_keepTunes_171 (by decide) ?_
                      have q_40 : vp_in v_23 36 := vp_in_iff.mpr ⟨by omega, by omega⟩
                      refine ms_42 hx hb hK hP hD hS q_40 dX12_keepTunes_190 (fun H locs hP hD hS => ?_)
                      have hf := MIf.up 42 (i := (Int32.toNatClampNeg v_23)) hf (ow_any (0 : Int32))
                      have hF_0 := FF.up hF_0 42 (upd (f14 42) (Int32.toNatClampNeg v_23) 0) (by decide)
                      have hY_9 := FF.up hY_9 42 (upd (f14 42) (Int32.toNatClampNeg v_23) 0) (by decide)
                      have hY_14 := FF.up hY_14 42 (upd (f14 42) (Int32.toNatClampNeg v_23) 0) (by decide)
                      have hL : WL v14 (va_up f14 42 (upd (f14 42) (Int32.toNatClampNeg v_23) 0)) := WL.upf 42 hL (by decide)
                      have hR : RI v14 (va_up f14 42 (upd (f14 42) (Int32.toNatClampNeg v_23) 0)) := RI.up 42 hR (by decide)
                      obtain ⟨v_41, ev_41⟩ : ∃ y : Int32, y = x3_14 + 1 := ⟨_, rfl⟩
                      refine lv_iinc (v := v_41) (lv' := [(3, .int v_41), (2, .int x2_9), (0, .ref mo), (1, .int n)]) hx hb dX12_keepTunes_191 hl (k := 0) rfl (by rw [ev_41]; rfl) (by decide) rfl (fun ls hl => ?_)
                      have q_42 : v_41.toInt = x3_14.toInt + 1 := by have := ow_add ev_41 (by omega) (by omega); omega
                      refine lv_goto (tgt := 147) hx hb dX12_keepTunes_194 (by decide) ?_
                      refine W.widen (k := 0) (n := 0) (Nat.le_of_ble_eq_true rfl) (Nat.le_of_ble_eq_true rfl) ?_
                      exact ih_14 v_41 v14 nm14 (va_up f14 42 (upd (f14 42) (Int32.toNatClampNeg v_23) 0)) g14 _ _ _ hv hf hR hL hW_14 hY_14 (by omega) (by omega) hP hD hS (lv_sub hl [0, 1, 2, 3] rfl)
              exact lp_14 _ (0) v9 nm9 f9 g9 _ _ _ hv hf hR hL FV.rf FF.rf (by omega) (Nat.lt_succ_self _) hP hD hS (lv_sub hl [0, 1, 2, 3] rfl)
        exact lp_9 _ (0) v1 nm1 f1 g1 _ _ _ hv hf hR hL FV.rf FF.rf (by omega) (Nat.lt_succ_self _) hP hD hS (lv_sub hl [0, 1, 2] rfl)
      · have q_43 : x2_1.toInt < v_4.toInt := by have := (not_congr (ow_le _ _)).mp c_7; omega
        refine lv_iload_n hx hb dX12_keepTunes_20 rfl (lv_at hl 2 rfl) ?_
        refine lv_iload_n hx hb dX12_keepTunes_21 rfl (lv_at hl 0 rfl) ?_
        refine lv_ishr hx hb dX12_keepTunes_22 ?_
        refine lv_topi (fun v_44 ev_44 => ?_)
        refine lv_iconst (v := 1) hx hb dX12_keepTunes_23 (by decide) ?_
        refine lv_iand hx hb dX12_keepTunes_24 ?_
        refine lv_topi (fun v_45 ev_45 => ?_)
        have q_46 : v_45.toInt = bt n x2_1 := by rw [ev_45, ev_44]; rfl
        have q_47 : 0 ≤ v_45.toInt ∧ v_45.toInt ≤ 1 := by rw [ev_45]; exact ow_and1 _
        refine lv_iconst (v := 1) hx hb dX12_keepTunes_25 (by decide) ?_
        refine lv_icmp_ne (tgt := 33) hx hb dX12_keepTunes_26 (by decide) (fun c_48 => ?_) (fun c_48 => ?_)
        · have q_49 : ¬ v_45.toInt = (1 : Int32).toInt := by have := (not_congr (ow_eq _ _)).mp c_48; omega
          refine lv_iconst (v := 0) hx hb dX12_keepTunes_33 (by decide) ?_
          refine lv_istore_n (lv' := [(3, .int 0), (2, .int x2_1), (0, .ref mo), (1, .int n)]) hx hb dX12_keepTunes_34 rfl hl (by decide) rfl (fun ls hl => ?_)
          refine lv_iconst (v := 0) hx hb dX12_keepTunes_35 (by decide) ?_
          refine lv_istore (lv' := [(4, .int 0), (3, .int 0), (2, .int x2_1), (0, .ref mo), (1, .int n)]) hx hb dX12_keepTunes_36 hl (by decide) rfl (fun ls hl => ?_)
          refine W.widen (k := 0) (n := 0) (Nat.le_of_ble_eq_true rfl) (Nat.le_of_ble_eq_true rfl) ?_
          have lp_50 : ∀ (N_50 : Nat) (x4_50 : Int32) (x3_50 : Int32) (H : Heap) (locs : List Loc) (ls : Array Slot), (0 ≤ x4_50.toInt ∧ x4_50.toInt ≤ 14) → (0 ≤ x3_50.toInt ∧ x3_50.toInt ≤ 1) → (x3_50.toInt = 0 ∨ bt n x2_1 = 1) → (14 - x4_50.toInt).toNat < N_50 → va_P G vwCl (WMs cy mo h v1 nm1 f1 g1) H → va_D A (WMs cy mo h v1 nm1 f1 g1) → va_S A s.heap H locs → lv_has ls 5 [(4, .int x4_50), (3, .int x3_50), (2, .int x2_1), (0, .ref mo), (1, .int n)] → W p l e (headSpec (.code yX12_keepTunes cX12_keepTunes 5 none :: TBg) ({ frames := 6, cells := 0, slots := 0, locals := 384 })).room s m ([.ref mo, .int n] : List Value).toArray below meth c H locs 0 0 (MQ below (va_Qv (fun (u : (Nat → Int32) × Int64 × (Nat → Nat → Int32) × (Nat → Nat → Int64)) => MIv T u.1 ∧ MIf u.2.2.1 ∧ RI u.1 u.2.2.1 ∧ WL u.1 u.2.2.1 ∧ FV [43] v u.1 ∧ FF [41, 42] f u.2.2.1 ∧ (True)) (fun u t => Ex G A (WMs cy mo h u.1 u.2.1 u.2.2.1 u.2.2.2) t) A) ([.ref mo, .int n] : List Value).toArray s 0 0 A) (F0 m 38 ls []) := by
            intro N_50
            induction N_50 with
            | zero => intro x4_50 x3_50 H locs ls qf50_0 qf50_1 qf50_2 hm hP hD hS hl; exact absurd hm (Nat.not_lt_zero _)
            | succ N_50 ih_50 =>
              intro x4_50 x3_50 H locs ls qf50_0 qf50_1 qf50_2 hm hP hD hS hl
              refine lv_iload hx hb dX12_keepTunes_38 (lv_at hl 0 rfl) ?_
              refine lv_aload_n hx hb dX12_keepTunes_40 rfl (lv_at hl 3 rfl) ?_
              refine mg_11 hx hb ht hown hK hP dX12_keepTunes_41 ?_
              refine lv_aload_n hx hb dX12_keepTunes_44 rfl (lv_at hl 3 rfl) ?_
              refine mg_29 hx hb ht hown hK hP dX12_keepTunes_45 ?_
              refine ow_top (v 29) (hV_1 29 (by decide)) ?_
              have q_51 : 0 ≤ (v 29).toInt ∧ (v 29).toInt ≤ 1 := by have h9 : v1 29 = (v 29) := (hV_1 29 (by decide)); rw [← h9]; exact hv 29
              have q_52 : vp_in (v 29) 2 := vp_in_iff.mpr ⟨by omega, by omega⟩
              refine ml_11 hx hb hK hP q_52 dX12_keepTunes_48 ?_
              refine lv_topi (fun v_53 ev_53 => ?_)
              have q_54 : 0 ≤ v_53.toInt ∧ v_53.toInt ≤ 14 := by rw [ev_53]; exact MIf.rd 11 hf q_52
              have q_55 : v_53.toInt = ((f 11) (Int32.toNatClampNeg (v 29))).toInt := (congrArg Int32.toInt ev_53).trans (congrArg (fun z : Nat → Int32 => (z (Int32.toNatClampNeg (v 29))).toInt) (show f1 11 = (f 11) from (hF_1 11 (by decide))))
              refine lv_icmp_ge (tgt := 102) hx hb dX12_keepTunes_49 (by decide) (fun c_56 => ?_) (fun c_56 => ?_)
              · have q_57 : v_53.toInt ≤ x4_50.toInt := (ow_le _ _).mp c_56
                refine lv_iload_n hx hb dX12_keepTunes_102 rfl (lv_at hl 1 rfl) ?_
                refine lv_if_ne (tgt := 109) hx hb dX12_keepTunes_103 (by decide) (fun c_58 => ?_) (fun c_58 => ?_)
                · have q_59 : ¬ x3_50.toInt = (0 : Int32).toInt := by have := (not_congr (ow_eq _ _)).mp c_58; omega
                  have hb1 : bts n ((Int32.toNatClampNeg x2_1) + 1) = bts n (Int32.toNatClampNeg x2_1) + bt n (nI (Int32.toNatClampNeg x2_1)) := rfl
                  rw [nI_tn (k := x2_1) (by omega)] at hb1
                  have hb2 : bts n ((Int32.toNatClampNeg x2_1) + 1) ≤ bts n 31 := bts_mono n (by rw [ow_tn]; omega)
                  refine lv_aload_n hx hb dX12_keepTunes_109 rfl (lv_at hl 3 rfl) ?_
                  refine mg_41 hx hb ht hown hK hP dX12_keepTunes_110 ?_
                  refine lv_aload_n hx hb dX12_keepTunes_113 rfl (lv_at hl 3 rfl) ?_
                  refine mg_43 hx hb ht hown hK hP dX12_keepTunes_114 ?_
                  have q_60 : 0 ≤ (v1 43).toInt ∧ (v1 43).toInt ≤ 6 := hv 43
                  refine lv_iload_n hx hb dX12_keepTunes_117 rfl (lv_at hl 2 rfl) ?_
                  have q_61 : vp_in (v1 43) 6 := vp_in_iff.mpr ⟨by omega, by omega⟩
                  refine ms_41 hx hb hK hP hD hS q_61 dX12_keepTunes_118 (fun H locs hP hD hS => ?_)
                  have hf := MIf.up 41 (i := (Int32.toNatClampNeg (v1 43))) hf (show 0 ≤ x2_1.toInt ∧ x2_1.toInt ≤ 13 from by omega)
                  have hF_0 := FF.up hF_0 41 (upd (f1 41) (Int32.toNatClampNeg (v1 43)) x2_1) (by decide)
                  have hY_1 := FF.up hY_1 41 (upd (f1 41) (Int32.toNatClampNeg (v1 43)) x2_1) (by decide)
                  have hL : WL v1 (va_up f1 41 (upd (f1 41) (Int32.toNatClampNeg (v1 43)) x2_1)) := WL.upf 41 hL (by decide)
                  have hR : RI v1 (va_up f1 41 (upd (f1 41) (Int32.toNatClampNeg (v1 43)) x2_1)) := RI.up 41 hR (by decide)
                  refine lv_aload_n hx hb dX12_keepTunes_119 rfl (lv_at hl 3 rfl) ?_
                  refine lv_dup hx hb dX12_keepTunes_120 rfl ?_
                  refine mg_43 hx hb ht hown hK hP dX12_keepTunes_121 ?_
                  refine lv_iconst (v := 1) hx hb dX12_keepTunes_124 (by decide) ?_
                  refine lv_iadd hx hb dX12_keepTunes_125 ?_
                  refine lv_topi (fun v_62 ev_62 => ?_)
                  have q_63 : v_62.toInt = (v1 43).toInt + (1 : Int32).toInt := ow_add ev_62 (by omega) (by omega)
                  refine mp_43 hx hb ht hown hK hP hD hS dX12_keepTunes_126 (fun H locs hP hD hS => ?_)
                  have hv := MIv.up 43 hv (show 0 ≤ v_62.toInt ∧ v_62.toInt ≤ 6 from by omega)
                  have hL : WL (va_up v1 43 v_62) (va_up f1 41 (upd (f1 41) (Int32.toNatClampNeg (v1 43)) x2_1)) := WL.upv 43 hL (by decide)
                  have hR : RI (va_up v1 43 v_62) (va_up f1 41 (upd (f1 41) (Int32.toNatClampNeg (v1 43)) x2_1)) := RI.upv 43 hR (by decide)
                  have hV_0 := FV.up hV_0 43 v_62 (by decide)
                  have hW_1 := FV.up hW_1 43 v_62 (by decide)
                  obtain ⟨v_64, ev_64⟩ : ∃ y : Int32, y = x2_1 + 1 := ⟨_, rfl⟩
                  refine lv_iinc (v := v_64) (lv' := [(2, .int v_64), (4, .int x4_50), (3, .int x3_50), (0, .ref mo), (1, .int n)]) hx hb dX12_keepTunes_129 hl (k := 2) rfl (by rw [ev_64]; rfl) (by decide) rfl (fun ls hl => ?_)
                  have q_65 : v_64.toInt = x2_1.toInt + 1 := by have := ow_add ev_64 (by omega) (by omega); omega
                  refine lv_goto (tgt := 7) hx hb dX12_keepTunes_132 (by decide) ?_
                  refine W.widen (k := 0) (n := 0) (Nat.le_of_ble_eq_true rfl) (Nat.le_of_ble_eq_true rfl) ?_
                  exact ih_1 v_64 (va_up v1 43 v_62) nm1 (va_up f1 41 (upd (f1 41) (Int32.toNatClampNeg (v1 43)) x2_1)) g1 _ _ _ hv hf hR hL hW_1 hY_1 (by omega) (show 0 ≤ v_62.toInt ∧ v_62.toInt ≤ 6 from by omega) (show v_62.toInt ≤ bts n (Int32.toNatClampNeg v_64) from by rw [bt_step (k := x2_1) (k1 := v_64) (by omega) (by omega)]; have := bt_rg n x2_1; omega) (by omega) hP hD hS (lv_sub hl [0, 3, 4] rfl)
                · have q_66 : x3_50.toInt = (0 : Int32).toInt := (ow_eq _ _).mp c_58
                  refine lv_goto (tgt := 129) hx hb dX12_keepTunes_106 (by decide) ?_
                  obtain ⟨v_67, ev_67⟩ : ∃ y : Int32, y = x2_1 + 1 := ⟨_, rfl⟩
                  refine lv_iinc (v := v_67) (lv' := [(2, .int v_67), (4, .int x4_50), (3, .int x3_50), (0, .ref mo), (1, .int n)]) hx hb dX12_keepTunes_129 hl (k := 2) rfl (by rw [ev_67]; rfl) (by decide) rfl (fun ls hl => ?_)
                  have q_68 : v_67.toInt = x2_1.toInt + 1 := by have := ow_add ev_67 (by omega) (by omega); omega
                  refine lv_goto (tgt := 7) hx hb dX12_keepTunes_132 (by decide) ?_
                  refine W.widen (k := 0) (n := 0) (Nat.le_of_ble_eq_true rfl) (Nat.le_of_ble_eq_true rfl) ?_
                  exact ih_1 v_67 v1 nm1 f1 g1 _ _ _ hv hf hR hL hW_1 hY_1 (by omega) (show 0 ≤ (v1 43).toInt ∧ (v1 43).toInt ≤ 6 from by omega) (show (v1 43).toInt ≤ bts n (Int32.toNatClampNeg v_67) from by rw [bt_step (k := x2_1) (k1 := v_67) (by omega) (by omega)]; have := bt_rg n x2_1; omega) (by omega) hP hD hS (lv_sub hl [0, 3, 4] rfl)
              · have q_69 : x4_50.toInt < v_53.toInt := by have := (not_congr (ow_le _ _)).mp c_56; omega
                refine lv_iload hx hb dX12_keepTunes_52 (lv_at hl 0 rfl) ?_
                refine lv_iload_n hx hb dX12_keepTunes_54 rfl (lv_at hl 2 rfl) ?_
                refine lv_icmp_eq (tgt := 96) hx hb dX12_keepTunes_55 (by decide) (fun c_70 => ?_) (fun c_70 => ?_)
                · have q_71 : x4_50.toInt = x2_1.toInt := (ow_eq _ _).mp c_70
                  obtain ⟨v_72, ev_72⟩ : ∃ y : Int32, y = x4_50 + 1 := ⟨_, rfl⟩
                  refine lv_iinc (v := v_72) (lv' := [(4, .int v_72), (3, .int x3_50), (2, .int x2_1), (0, .ref mo), (1, .int n)]) hx hb dX12_keepTunes_96 hl (k := 0) rfl (by rw [ev_72]; rfl) (by decide) rfl (fun ls hl => ?_)
                  have q_73 : v_72.toInt = x4_50.toInt + 1 := by have := ow_add ev_72 (by omega) (by omega); omega
                  refine lv_goto (tgt := 38) hx hb dX12_keepTunes_99 (by decide) ?_
                  refine W.widen (k := 0) (n := 0) (Nat.le_of_ble_eq_true rfl) (Nat.le_of_ble_eq_true rfl) ?_
                  exact ih_50 v_72 x3_50 _ _ _ (by omega) (by omega) (by omega) (by omega) hP hD hS (lv_sub hl [0, 1, 2, 3, 4] rfl)
                · have q_74 : ¬ x4_50.toInt = x2_1.toInt := by have := (not_congr (ow_eq _ _)).mp c_70; omega
                  refine lv_iload_n hx hb dX12_keepTunes_58 rfl (lv_at hl 4 rfl) ?_
                  refine lv_iload hx hb dX12_keepTunes_59 (lv_at hl 0 rfl) ?_
                  refine lv_ishr hx hb dX12_keepTunes_61 ?_
                  refine lv_topi (fun v_75 ev_75 => ?_)
                  refine lv_iconst (v := 1) hx hb dX12_keepTunes_62 (by decide) ?_
                  refine lv_iand hx hb dX12_keepTunes_63 ?_
                  refine lv_topi (fun v_76 ev_76 => ?_)
                  have q_77 : v_76.toInt = bt n x4_50 := by rw [ev_76, ev_75]; rfl
                  have q_78 : 0 ≤ v_76.toInt ∧ v_76.toInt ≤ 1 := by rw [ev_76]; exact ow_and1 _
                  refine lv_iconst (v := 1) hx hb dX12_keepTunes_64 (by decide) ?_
                  refine lv_icmp_ne (tgt := 96) hx hb dX12_keepTunes_65 (by decide) (fun c_79 => ?_) (fun c_79 => ?_)
                  · have q_80 : ¬ v_76.toInt = (1 : Int32).toInt := by have := (not_congr (ow_eq _ _)).mp c_79; omega
                    obtain ⟨v_81, ev_81⟩ : ∃ y : Int32, y = x4_50 + 1 := ⟨_, rfl⟩
                    refine lv_iinc (v := v_81) (lv' := [(4, .int v_81), (3, .int x3_50), (2, .int x2_1), (0, .ref mo), (1, .int n)]) hx hb dX12_keepTunes_96 hl (k := 0) rfl (by rw [ev_81]; rfl) (by decide) rfl (fun ls hl => ?_)
                    have q_82 : v_81.toInt = x4_50.toInt + 1 := by have := ow_add ev_81 (by omega) (by omega); omega
                    refine lv_goto (tgt := 38) hx hb dX12_keepTunes_99 (by decide) ?_
                    refine W.widen (k := 0) (n := 0) (Nat.le_of_ble_eq_true rfl) (Nat.le_of_ble_eq_true rfl) ?_
                    exact ih_50 v_81 x3_50 _ _ _ (by omega) (by omega) (by omega) (by omega) hP hD hS (lv_sub hl [0, 1, 2, 3, 4] rfl)
                  · have q_83 : v_76.toInt = (1 : Int32).toInt := (ow_eq _ _).mp c_79
                    refine lv_aload_n hx hb dX12_keepTunes_68 rfl (lv_at hl 3 rfl) ?_
                    refine lv_iload_n hx hb dX12_keepTunes_69 rfl (lv_at hl 2 rfl) ?_
                    refine lv_iload hx hb dX12_keepTunes_70 (lv_at hl 0 rfl) ?_
                    have hFc := fr_new hS hA
                    refine va_calli (va_runV (As := [.int x2_1, .int x4_50]) (rest := []) ⟨hx, hb, hml, hown, ht⟩ (m_isAlike l G cy _ mo h T v1 nm1 f1 g1 x2_1 x4_50  hv hf hR hL (by omega) (by omega)) (cwV 2 ht (gv k_164 k_165 k_166 k_61 k_163) rfl rfl rfl (by decide +kernel) ⟨Nat.le_of_ble_eq_true rfl, Nat.le_of_ble_eq_true rfl⟩) ⟨En.blind, va_recv hK hP (ci := 12) (q0 := 0) rfl rfl, fun U hU hW => ⟨rfl, En.of hU hW hP hK hD hN⟩⟩ rfl rfl hl.1 rfl (lv_room (Nat.le_of_ble_eq_true rfl)) dX12_keepTunes_72 ⟨Nat.le_of_ble_eq_true rfl, Nat.le_of_ble_eq_true rfl⟩) hS (fun q _ h => hFc q h) hFc (fun r_u_84 u_84 t9 H locs ht9 hvm hw hB hz1 hk1 hS => ?_)
                    have hP := fr_keep hP hk1
                    have wu_84 := hw
                    clear hFc hk1 hz1 hB hw
                    have wu_84 : (r_u_84.toInt = 0 ∨ r_u_84.toInt = 1) := wu_84
                    refine lv_if_eq (tgt := 96) hx hb dX12_keepTunes_75 (by decide) (fun c_85 => ?_) (fun c_85 => ?_)
                    · have q_86 : r_u_84.toInt = (0 : Int32).toInt := (ow_eq _ _).mp c_85
                      obtain ⟨v_87, ev_87⟩ : ∃ y : Int32, y = x4_50 + 1 := ⟨_, rfl⟩
                      refine lv_iinc (v := v_87) (lv' := [(4, .int v_87), (3, .int x3_50), (2, .int x2_1), (0, .ref mo), (1, .int n)]) hx hb dX12_keepTunes_96 hl (k := 0) rfl (by rw [ev_87]; rfl) (by decide) rfl (fun ls hl => ?_)
                      have q_88 : v_87.toInt = x4_50.toInt + 1 := by have := ow_add ev_87 (by omega) (by omega); omega
                      refine lv_goto (tgt := 38) hx hb dX12_keepTunes_99 (by decide) ?_
                      refine W.widen (k := 0) (n := 0) (Nat.le_of_ble_eq_true rfl) (Nat.le_of_ble_eq_true rfl) ?_
                      exact ih_50 v_87 x3_50 _ _ _ (by omega) (by omega) (by omega) (by omega) hP hD hS (lv_sub hl [0, 1, 2, 3, 4] rfl)
                    · have q_89 : ¬ r_u_84.toInt = (0 : Int32).toInt := by have := (not_congr (ow_eq _ _)).mp c_85; omega
                      refine lv_aload_n hx hb dX12_keepTunes_78 rfl (lv_at hl 3 rfl) ?_
                      refine lv_iload hx hb dX12_keepTunes_79 (lv_at hl 0 rfl) ?_
                      refine lv_iload_n hx hb dX12_keepTunes_81 rfl (lv_at hl 2 rfl) ?_
                      have hFc := fr_new hS hA
                      refine va_calli (va_runV (As := [.int x4_50, .int x2_1]) (rest := []) ⟨hx, hb, hml, hown, ht⟩ (m_isAlike l G cy _ mo h T v1 nm1 f1 g1 x4_50 x2_1  hv hf hR hL (by omega) (by omega)) (cwV 2 ht (gv k_164 k_165 k_166 k_61 k_163) rfl rfl rfl (by decide +kernel) ⟨Nat.le_of_ble_eq_true rfl, Nat.le_of_ble_eq_true rfl⟩) ⟨En.blind, va_recv hK hP (ci := 12) (q0 := 0) rfl rfl, fun U hU hW => ⟨rfl, En.of hU hW hP hK hD hN⟩⟩ rfl rfl hl.1 rfl (lv_room (Nat.le_of_ble_eq_true rfl)) dX12_keepTunes_82 ⟨Nat.le_of_ble_eq_true rfl, Nat.le_of_ble_eq_true rfl⟩) hS (fun q _ h => hFc q h) hFc (fun r_u_90 u_90 t9 H locs ht9 hvm hw hB hz1 hk1 hS => ?_)
                      have hP := fr_keep hP hk1
                      have wu_90 := hw
                      clear hFc hk1 hz1 hB hw
                      have wu_90 : (r_u_90.toInt = 0 ∨ r_u_90.toInt = 1) := wu_90
                      refine lv_if_eq (tgt := 94) hx hb dX12_keepTunes_85 (by decide) (fun c_91 => ?_) (fun c_91 => ?_)
                      · have q_92 : r_u_90.toInt = (0 : Int32).toInt := (ow_eq _ _).mp c_91
                        refine lv_iconst (v := 0) hx hb dX12_keepTunes_94 (by decide) ?_
                        refine lv_istore_n (lv' := [(3, .int 0), (4, .int x4_50), (2, .int x2_1), (0, .ref mo), (1, .int n)]) hx hb dX12_keepTunes_95 rfl hl (by decide) rfl (fun ls hl => ?_)
                        obtain ⟨v_93, ev_93⟩ : ∃ y : Int32, y = x4_50 + 1 := ⟨_, rfl⟩
                        refine lv_iinc (v := v_93) (lv' := [(4, .int v_93), (3, .int 0), (2, .int x2_1), (0, .ref mo), (1, .int n)]) hx hb dX12_keepTunes_96 hl (k := 1) rfl (by rw [ev_93]; rfl) (by decide) rfl (fun ls hl => ?_)
                        have q_94 : v_93.toInt = x4_50.toInt + 1 := by have := ow_add ev_93 (by omega) (by omega); omega
                        refine lv_goto (tgt := 38) hx hb dX12_keepTunes_99 (by decide) ?_
                        refine W.widen (k := 0) (n := 0) (Nat.le_of_ble_eq_true rfl) (Nat.le_of_ble_eq_true rfl) ?_
                        exact ih_50 v_93 (0) _ _ _ (by omega) (by omega) (by omega) (by omega) hP hD hS (lv_sub hl [0, 1, 2, 3, 4] rfl)
                      · have q_95 : ¬ r_u_90.toInt = (0 : Int32).toInt := by have := (not_congr (ow_eq _ _)).mp c_91; omega
                        refine lv_iload hx hb dX12_keepTunes_88 (lv_at hl 0 rfl) ?_
                        refine lv_iload_n hx hb dX12_keepTunes_90 rfl (lv_at hl 2 rfl) ?_
                        refine lv_icmp_ge (tgt := 96) hx hb dX12_keepTunes_91 (by decide) (fun c_96 => ?_) (fun c_96 => ?_)
                        · have q_97 : x2_1.toInt ≤ x4_50.toInt := (ow_le _ _).mp c_96
                          obtain ⟨v_98, ev_98⟩ : ∃ y : Int32, y = x4_50 + 1 := ⟨_, rfl⟩
                          refine lv_iinc (v := v_98) (lv' := [(4, .int v_98), (3, .int x3_50), (2, .int x2_1), (0, .ref mo), (1, .int n)]) hx hb dX12_keepTunes_96 hl (k := 0) rfl (by rw [ev_98]; rfl) (by decide) rfl (fun ls hl => ?_)
                          have q_99 : v_98.toInt = x4_50.toInt + 1 := by have := ow_add ev_98 (by omega) (by omega); omega
                          refine lv_goto (tgt := 38) hx hb dX12_keepTunes_99 (by decide) ?_
                          refine W.widen (k := 0) (n := 0) (Nat.le_of_ble_eq_true rfl) (Nat.le_of_ble_eq_true rfl) ?_
                          exact ih_50 v_98 x3_50 _ _ _ (by omega) (by omega) (by omega) (by omega) hP hD hS (lv_sub hl [0, 1, 2, 3, 4] rfl)
                        · have q_100 : x4_50.toInt < x2_1.toInt := by have := (not_congr (ow_le _ _)).mp c_96; omega
                          refine lv_iconst (v := 0) hx hb dX12_keepTunes_94 (by decide) ?_
                          refine lv_istore_n (lv' := [(3, .int 0), (4, .int x4_50), (2, .int x2_1), (0, .ref mo), (1, .int n)]) hx hb dX12_keepTunes_95 rfl hl (by decide) rfl (fun ls hl => ?_)
                          obtain ⟨v_101, ev_101⟩ : ∃ y : Int32, y = x4_50 + 1 := ⟨_, rfl⟩
                          refine lv_iinc (v := v_101) (lv' := [(4, .int v_101), (3, .int 0), (2, .int x2_1), (0, .ref mo), (1, .int n)]) hx hb dX12_keepTunes_96 hl (k := 1) rfl (by rw [ev_101]; rfl) (by decide) rfl (fun ls hl => ?_)
                          have q_102 : v_101.toInt = x4_50.toInt + 1 := by have := ow_add ev_101 (by omega) (by omega); omega
                          refine lv_goto (tgt := 38) hx hb dX12_keepTunes_99 (by decide) ?_
                          refine W.widen (k := 0) (n := 0) (Nat.le_of_ble_eq_true rfl) (Nat.le_of_ble_eq_true rfl) ?_
                          exact ih_50 v_101 (0) _ _ _ (by omega) (by omega) (by omega) (by omega) hP hD hS (lv_sub hl [0, 1, 2, 3, 4] rfl)
          exact lp_50 _ (0) (0) _ _ _ (by omega) (by omega) (by omega) (Nat.lt_succ_self _) hP hD hS (lv_sub hl [0, 1, 2, 3, 4] rfl)
        · have q_103 : v_45.toInt = (1 : Int32).toInt := (ow_eq _ _).mp c_48
          refine lv_iconst (v := 1) hx hb dX12_keepTunes_29 (by decide) ?_
          refine lv_goto (tgt := 34) hx hb dX12_keepTunes_30 (by decide) ?_
          refine lv_istore_n (lv' := [(3, .int 1), (2, .int x2_1), (0, .ref mo), (1, .int n)]) hx hb dX12_keepTunes_34 rfl hl (by decide) rfl (fun ls hl => ?_)
          refine lv_iconst (v := 0) hx hb dX12_keepTunes_35 (by decide) ?_
          refine lv_istore (lv' := [(4, .int 0), (3, .int 1), (2, .int x2_1), (0, .ref mo), (1, .int n)]) hx hb dX12_keepTunes_36 hl (by decide) rfl (fun ls hl => ?_)
          refine W.widen (k := 0) (n := 0) (Nat.le_of_ble_eq_true rfl) (Nat.le_of_ble_eq_true rfl) ?_
          have lp_104 : ∀ (N_104 : Nat) (x4_104 : Int32) (x3_104 : Int32) (H : Heap) (locs : List Loc) (ls : Array Slot), (0 ≤ x4_104.toInt ∧ x4_104.toInt ≤ 14) → (0 ≤ x3_104.toInt ∧ x3_104.toInt ≤ 1) → (x3_104.toInt = 0 ∨ bt n x2_1 = 1) → (14 - x4_104.toInt).toNat < N_104 → va_P G vwCl (WMs cy mo h v1 nm1 f1 g1) H → va_D A (WMs cy mo h v1 nm1 f1 g1) → va_S A s.heap H locs → lv_has ls 5 [(4, .int x4_104), (3, .int x3_104), (2, .int x2_1), (0, .ref mo), (1, .int n)] → W p l e (headSpec (.code yX12_keepTunes cX12_keepTunes 5 none :: TBg) ({ frames := 6, cells := 0, slots := 0, locals := 384 })).room s m ([.ref mo, .int n] : List Value).toArray below meth c H locs 0 0 (MQ below (va_Qv (fun (u : (Nat → Int32) × Int64 × (Nat → Nat → Int32) × (Nat → Nat → Int64)) => MIv T u.1 ∧ MIf u.2.2.1 ∧ RI u.1 u.2.2.1 ∧ WL u.1 u.2.2.1 ∧ FV [43] v u.1 ∧ FF [41, 42] f u.2.2.1 ∧ (True)) (fun u t => Ex G A (WMs cy mo h u.1 u.2.1 u.2.2.1 u.2.2.2) t) A) ([.ref mo, .int n] : List Value).toArray s 0 0 A) (F0 m 38 ls []) := by
            intro N_104
            induction N_104 with
            | zero => intro x4_104 x3_104 H locs ls qf104_0 qf104_1 qf104_2 hm hP hD hS hl; exact absurd hm (Nat.not_lt_zero _)
            | succ N_104 ih_104 =>
              intro x4_104 x3_104 H locs ls qf104_0 qf104_1 qf104_2 hm hP hD hS hl
              refine lv_iload hx hb dX12_keepTunes_38 (lv_at hl 0 rfl) ?_
              refine lv_aload_n hx hb dX12_keepTunes_40 rfl (lv_at hl 3 rfl) ?_
              refine mg_11 hx hb ht hown hK hP dX12_keepTunes_41 ?_
              refine lv_aload_n hx hb dX12_keepTunes_44 rfl (lv_at hl 3 rfl) ?_
              refine mg_29 hx hb ht hown hK hP dX12_keepTunes_45 ?_
              refine ow_top (v 29) (hV_1 29 (by decide)) ?_
              have q_105 : 0 ≤ (v 29).toInt ∧ (v 29).toInt ≤ 1 := by have h9 : v1 29 = (v 29) := (hV_1 29 (by decide)); rw [← h9]; exact hv 29
              have q_106 : vp_in (v 29) 2 := vp_in_iff.mpr ⟨by omega, by omega⟩
              refine ml_11 hx hb hK hP q_106 dX12_keepTunes_48 ?_
              refine lv_topi (fun v_107 ev_107 => ?_)
              have q_108 : 0 ≤ v_107.toInt ∧ v_107.toInt ≤ 14 := by rw [ev_107]; exact MIf.rd 11 hf q_106
              have q_109 : v_107.toInt = ((f 11) (Int32.toNatClampNeg (v 29))).toInt := (congrArg Int32.toInt ev_107).trans (congrArg (fun z : Nat → Int32 => (z (Int32.toNatClampNeg (v 29))).toInt) (show f1 11 = (f 11) from (hF_1 11 (by decide))))
              refine lv_icmp_ge (tgt := 102) hx hb dX12_keepTunes_49 (by decide) (fun c_110 => ?_) (fun c_110 => ?_)
              · have q_111 : v_107.toInt ≤ x4_104.toInt := (ow_le _ _).mp c_110
                refine lv_iload_n hx hb dX12_keepTunes_102 rfl (lv_at hl 1 rfl) ?_
                refine lv_if_ne (tgt := 109) hx hb dX12_keepTunes_103 (by decide) (fun c_112 => ?_) (fun c_112 => ?_)
                · have q_113 : ¬ x3_104.toInt = (0 : Int32).toInt := by have := (not_congr (ow_eq _ _)).mp c_112; omega
                  have hb1 : bts n ((Int32.toNatClampNeg x2_1) + 1) = bts n (Int32.toNatClampNeg x2_1) + bt n (nI (Int32.toNatClampNeg x2_1)) := rfl
                  rw [nI_tn (k := x2_1) (by omega)] at hb1
                  have hb2 : bts n ((Int32.toNatClampNeg x2_1) + 1) ≤ bts n 31 := bts_mono n (by rw [ow_tn]; omega)
                  refine lv_aload_n hx hb dX12_keepTunes_109 rfl (lv_at hl 3 rfl) ?_
                  refine mg_41 hx hb ht hown hK hP dX12_keepTunes_110 ?_
                  refine lv_aload_n hx hb dX12_keepTunes_113 rfl (lv_at hl 3 rfl) ?_
                  refine mg_43 hx hb ht hown hK hP dX12_keepTunes_114 ?_
                  have q_114 : 0 ≤ (v1 43).toInt ∧ (v1 43).toInt ≤ 6 := hv 43
                  refine lv_iload_n hx hb dX12_keepTunes_117 rfl (lv_at hl 2 rfl) ?_
                  have q_115 : vp_in (v1 43) 6 := vp_in_iff.mpr ⟨by omega, by omega⟩
                  refine ms_41 hx hb hK hP hD hS q_115 dX12_keepTunes_118 (fun H locs hP hD hS => ?_)
                  have hf := MIf.up 41 (i := (Int32.toNatClampNeg (v1 43))) hf (show 0 ≤ x2_1.toInt ∧ x2_1.toInt ≤ 13 from by omega)
                  have hF_0 := FF.up hF_0 41 (upd (f1 41) (Int32.toNatClampNeg (v1 43)) x2_1) (by decide)
                  have hY_1 := FF.up hY_1 41 (upd (f1 41) (Int32.toNatClampNeg (v1 43)) x2_1) (by decide)
                  have hL : WL v1 (va_up f1 41 (upd (f1 41) (Int32.toNatClampNeg (v1 43)) x2_1)) := WL.upf 41 hL (by decide)
                  have hR : RI v1 (va_up f1 41 (upd (f1 41) (Int32.toNatClampNeg (v1 43)) x2_1)) := RI.up 41 hR (by decide)
                  refine lv_aload_n hx hb dX12_keepTunes_119 rfl (lv_at hl 3 rfl) ?_
                  refine lv_dup hx hb dX12_keepTunes_120 rfl ?_
                  refine mg_43 hx hb ht hown hK hP dX12_keepTunes_121 ?_
                  refine lv_iconst (v := 1) hx hb dX12_keepTunes_124 (by decide) ?_
                  refine lv_iadd hx hb dX12_keepTunes_125 ?_
                  refine lv_topi (fun v_116 ev_116 => ?_)
                  have q_117 : v_116.toInt = (v1 43).toInt + (1 : Int32).toInt := ow_add ev_116 (by omega) (by omega)
                  refine mp_43 hx hb ht hown hK hP hD hS dX12_keepTunes_126 (fun H locs hP hD hS => ?_)
                  have hv := MIv.up 43 hv (show 0 ≤ v_116.toInt ∧ v_116.toInt ≤ 6 from by omega)
                  have hL : WL (va_up v1 43 v_116) (va_up f1 41 (upd (f1 41) (Int32.toNatClampNeg (v1 43)) x2_1)) := WL.upv 43 hL (by decide)
                  have hR : RI (va_up v1 43 v_116) (va_up f1 41 (upd (f1 41) (Int32.toNatClampNeg (v1 43)) x2_1)) := RI.upv 43 hR (by decide)
                  have hV_0 := FV.up hV_0 43 v_116 (by decide)
                  have hW_1 := FV.up hW_1 43 v_116 (by decide)
                  obtain ⟨v_118, ev_118⟩ : ∃ y : Int32, y = x2_1 + 1 := ⟨_, rfl⟩
                  refine lv_iinc (v := v_118) (lv' := [(2, .int v_118), (4, .int x4_104), (3, .int x3_104), (0, .ref mo), (1, .int n)]) hx hb dX12_keepTunes_129 hl (k := 2) rfl (by rw [ev_118]; rfl) (by decide) rfl (fun ls hl => ?_)
                  have q_119 : v_118.toInt = x2_1.toInt + 1 := by have := ow_add ev_118 (by omega) (by omega); omega
                  refine lv_goto (tgt := 7) hx hb dX12_keepTunes_132 (by decide) ?_
                  refine W.widen (k := 0) (n := 0) (Nat.le_of_ble_eq_true rfl) (Nat.le_of_ble_eq_true rfl) ?_
                  exact ih_1 v_118 (va_up v1 43 v_116) nm1 (va_up f1 41 (upd (f1 41) (Int32.toNatClampNeg (v1 43)) x2_1)) g1 _ _ _ hv hf hR hL hW_1 hY_1 (by omega) (show 0 ≤ v_116.toInt ∧ v_116.toInt ≤ 6 from by omega) (show v_116.toInt ≤ bts n (Int32.toNatClampNeg v_118) from by rw [bt_step (k := x2_1) (k1 := v_118) (by omega) (by omega)]; have := bt_rg n x2_1; omega) (by omega) hP hD hS (lv_sub hl [0, 3, 4] rfl)
                · have q_120 : x3_104.toInt = (0 : Int32).toInt := (ow_eq _ _).mp c_112
                  refine lv_goto (tgt := 129) hx hb dX12_keepTunes_106 (by decide) ?_
                  obtain ⟨v_121, ev_121⟩ : ∃ y : Int32, y = x2_1 + 1 := ⟨_, rfl⟩
                  refine lv_iinc (v := v_121) (lv' := [(2, .int v_121), (4, .int x4_104), (3, .int x3_104), (0, .ref mo), (1, .int n)]) hx hb dX12_keepTunes_129 hl (k := 2) rfl (by rw [ev_121]; rfl) (by decide) rfl (fun ls hl => ?_)
                  have q_122 : v_121.toInt = x2_1.toInt + 1 := by have := ow_add ev_121 (by omega) (by omega); omega
                  refine lv_goto (tgt := 7) hx hb dX12_keepTunes_132 (by decide) ?_
                  refine W.widen (k := 0) (n := 0) (Nat.le_of_ble_eq_true rfl) (Nat.le_of_ble_eq_true rfl) ?_
                  exact ih_1 v_121 v1 nm1 f1 g1 _ _ _ hv hf hR hL hW_1 hY_1 (by omega) (show 0 ≤ (v1 43).toInt ∧ (v1 43).toInt ≤ 6 from by omega) (show (v1 43).toInt ≤ bts n (Int32.toNatClampNeg v_121) from by rw [bt_step (k := x2_1) (k1 := v_121) (by omega) (by omega)]; have := bt_rg n x2_1; omega) (by omega) hP hD hS (lv_sub hl [0, 3, 4] rfl)
              · have q_123 : x4_104.toInt < v_107.toInt := by have := (not_congr (ow_le _ _)).mp c_110; omega
                refine lv_iload hx hb dX12_keepTunes_52 (lv_at hl 0 rfl) ?_
                refine lv_iload_n hx hb dX12_keepTunes_54 rfl (lv_at hl 2 rfl) ?_
                refine lv_icmp_eq (tgt := 96) hx hb dX12_keepTunes_55 (by decide) (fun c_124 => ?_) (fun c_124 => ?_)
                · have q_125 : x4_104.toInt = x2_1.toInt := (ow_eq _ _).mp c_124
                  obtain ⟨v_126, ev_126⟩ : ∃ y : Int32, y = x4_104 + 1 := ⟨_, rfl⟩
                  refine lv_iinc (v := v_126) (lv' := [(4, .int v_126), (3, .int x3_104), (2, .int x2_1), (0, .ref mo), (1, .int n)]) hx hb dX12_keepTunes_96 hl (k := 0) rfl (by rw [ev_126]; rfl) (by decide) rfl (fun ls hl => ?_)
                  have q_127 : v_126.toInt = x4_104.toInt + 1 := by have := ow_add ev_126 (by omega) (by omega); omega
                  refine lv_goto (tgt := 38) hx hb dX12_keepTunes_99 (by decide) ?_
                  refine W.widen (k := 0) (n := 0) (Nat.le_of_ble_eq_true rfl) (Nat.le_of_ble_eq_true rfl) ?_
                  exact ih_104 v_126 x3_104 _ _ _ (by omega) (by omega) (by omega) (by omega) hP hD hS (lv_sub hl [0, 1, 2, 3, 4] rfl)
                · have q_128 : ¬ x4_104.toInt = x2_1.toInt := by have := (not_congr (ow_eq _ _)).mp c_124; omega
                  refine lv_iload_n hx hb dX12_keepTunes_58 rfl (lv_at hl 4 rfl) ?_
                  refine lv_iload hx hb dX12_keepTunes_59 (lv_at hl 0 rfl) ?_
                  refine lv_ishr hx hb dX12_keepTunes_61 ?_
                  refine lv_topi (fun v_129 ev_129 => ?_)
                  refine lv_iconst (v := 1) hx hb dX12_keepTunes_62 (by decide) ?_
                  refine lv_iand hx hb dX12_keepTunes_63 ?_
                  refine lv_topi (fun v_130 ev_130 => ?_)
                  have q_131 : v_130.toInt = bt n x4_104 := by rw [ev_130, ev_129]; rfl
                  have q_132 : 0 ≤ v_130.toInt ∧ v_130.toInt ≤ 1 := by rw [ev_130]; exact ow_and1 _
                  refine lv_iconst (v := 1) hx hb dX12_keepTunes_64 (by decide) ?_
                  refine lv_icmp_ne (tgt := 96) hx hb dX12_keepTunes_65 (by decide) (fun c_133 => ?_) (fun c_133 => ?_)
                  · have q_134 : ¬ v_130.toInt = (1 : Int32).toInt := by have := (not_congr (ow_eq _ _)).mp c_133; omega
                    obtain ⟨v_135, ev_135⟩ : ∃ y : Int32, y = x4_104 + 1 := ⟨_, rfl⟩
                    refine lv_iinc (v := v_135) (lv' := [(4, .int v_135), (3, .int x3_104), (2, .int x2_1), (0, .ref mo), (1, .int n)]) hx hb dX12_keepTunes_96 hl (k := 0) rfl (by rw [ev_135]; rfl) (by decide) rfl (fun ls hl => ?_)
                    have q_136 : v_135.toInt = x4_104.toInt + 1 := by have := ow_add ev_135 (by omega) (by omega); omega
                    refine lv_goto (tgt := 38) hx hb dX12_keepTunes_99 (by decide) ?_
                    refine W.widen (k := 0) (n := 0) (Nat.le_of_ble_eq_true rfl) (Nat.le_of_ble_eq_true rfl) ?_
                    exact ih_104 v_135 x3_104 _ _ _ (by omega) (by omega) (by omega) (by omega) hP hD hS (lv_sub hl [0, 1, 2, 3, 4] rfl)
                  · have q_137 : v_130.toInt = (1 : Int32).toInt := (ow_eq _ _).mp c_133
                    refine lv_aload_n hx hb dX12_keepTunes_68 rfl (lv_at hl 3 rfl) ?_
                    refine lv_iload_n hx hb dX12_keepTunes_69 rfl (lv_at hl 2 rfl) ?_
                    refine lv_iload hx hb dX12_keepTunes_70 (lv_at hl 0 rfl) ?_
                    have hFc := fr_new hS hA
                    refine va_calli (va_runV (As := [.int x2_1, .int x4_104]) (rest := []) ⟨hx, hb, hml, hown, ht⟩ (m_isAlike l G cy _ mo h T v1 nm1 f1 g1 x2_1 x4_104  hv hf hR hL (by omega) (by omega)) (cwV 2 ht (gv k_164 k_165 k_166 k_61 k_163) rfl rfl rfl (by decide +kernel) ⟨Nat.le_of_ble_eq_true rfl, Nat.le_of_ble_eq_true rfl⟩) ⟨En.blind, va_recv hK hP (ci := 12) (q0 := 0) rfl rfl, fun U hU hW => ⟨rfl, En.of hU hW hP hK hD hN⟩⟩ rfl rfl hl.1 rfl (lv_room (Nat.le_of_ble_eq_true rfl)) dX12_keepTunes_72 ⟨Nat.le_of_ble_eq_true rfl, Nat.le_of_ble_eq_true rfl⟩) hS (fun q _ h => hFc q h) hFc (fun r_u_138 u_138 t9 H locs ht9 hvm hw hB hz1 hk1 hS => ?_)
                    have hP := fr_keep hP hk1
                    have wu_138 := hw
                    clear hFc hk1 hz1 hB hw
                    have wu_138 : (r_u_138.toInt = 0 ∨ r_u_138.toInt = 1) := wu_138
                    refine lv_if_eq (tgt := 96) hx hb dX12_keepTunes_75 (by decide) (fun c_139 => ?_) (fun c_139 => ?_)
                    · have q_140 : r_u_138.toInt = (0 : Int32).toInt := (ow_eq _ _).mp c_139
                      obtain ⟨v_141, ev_141⟩ : ∃ y : Int32, y = x4_104 + 1 := ⟨_, rfl⟩
                      refine lv_iinc (v := v_141) (lv' := [(4, .int v_141), (3, .int x3_104), (2, .int x2_1), (0, .ref mo), (1, .int n)]) hx hb dX12_keepTunes_96 hl (k := 0) rfl (by rw [ev_141]; rfl) (by decide) rfl (fun ls hl => ?_)
                      have q_142 : v_141.toInt = x4_104.toInt + 1 := by have := ow_add ev_141 (by omega) (by omega); omega
                      refine lv_goto (tgt := 38) hx hb dX12_keepTunes_99 (by decide) ?_
                      refine W.widen (k := 0) (n := 0) (Nat.le_of_ble_eq_true rfl) (Nat.le_of_ble_eq_true rfl) ?_
                      exact ih_104 v_141 x3_104 _ _ _ (by omega) (by omega) (by omega) (by omega) hP hD hS (lv_sub hl [0, 1, 2, 3, 4] rfl)
                    · have q_143 : ¬ r_u_138.toInt = (0 : Int32).toInt := by have := (not_congr (ow_eq _ _)).mp c_139; omega
                      refine lv_aload_n hx hb dX12_keepTunes_78 rfl (lv_at hl 3 rfl) ?_
                      refine lv_iload hx hb dX12_keepTunes_79 (lv_at hl 0 rfl) ?_
                      refine lv_iload_n hx hb dX12_keepTunes_81 rfl (lv_at hl 2 rfl) ?_
                      have hFc := fr_new hS hA
                      refine va_calli (va_runV (As := [.int x4_104, .int x2_1]) (rest := []) ⟨hx, hb, hml, hown, ht⟩ (m_isAlike l G cy _ mo h T v1 nm1 f1 g1 x4_104 x2_1  hv hf hR hL (by omega) (by omega)) (cwV 2 ht (gv k_164 k_165 k_166 k_61 k_163) rfl rfl rfl (by decide +kernel) ⟨Nat.le_of_ble_eq_true rfl, Nat.le_of_ble_eq_true rfl⟩) ⟨En.blind, va_recv hK hP (ci := 12) (q0 := 0) rfl rfl, fun U hU hW => ⟨rfl, En.of hU hW hP hK hD hN⟩⟩ rfl rfl hl.1 rfl (lv_room (Nat.le_of_ble_eq_true rfl)) dX12_keepTunes_82 ⟨Nat.le_of_ble_eq_true rfl, Nat.le_of_ble_eq_true rfl⟩) hS (fun q _ h => hFc q h) hFc (fun r_u_144 u_144 t9 H locs ht9 hvm hw hB hz1 hk1 hS => ?_)
                      have hP := fr_keep hP hk1
                      have wu_144 := hw
                      clear hFc hk1 hz1 hB hw
                      have wu_144 : (r_u_144.toInt = 0 ∨ r_u_144.toInt = 1) := wu_144
                      refine lv_if_eq (tgt := 94) hx hb dX12_keepTunes_85 (by decide) (fun c_145 => ?_) (fun c_145 => ?_)
                      · have q_146 : r_u_144.toInt = (0 : Int32).toInt := (ow_eq _ _).mp c_145
                        refine lv_iconst (v := 0) hx hb dX12_keepTunes_94 (by decide) ?_
                        refine lv_istore_n (lv' := [(3, .int 0), (4, .int x4_104), (2, .int x2_1), (0, .ref mo), (1, .int n)]) hx hb dX12_keepTunes_95 rfl hl (by decide) rfl (fun ls hl => ?_)
                        obtain ⟨v_147, ev_147⟩ : ∃ y : Int32, y = x4_104 + 1 := ⟨_, rfl⟩
                        refine lv_iinc (v := v_147) (lv' := [(4, .int v_147), (3, .int 0), (2, .int x2_1), (0, .ref mo), (1, .int n)]) hx hb dX12_keepTunes_96 hl (k := 1) rfl (by rw [ev_147]; rfl) (by decide) rfl (fun ls hl => ?_)
                        have q_148 : v_147.toInt = x4_104.toInt + 1 := by have := ow_add ev_147 (by omega) (by omega); omega
                        refine lv_goto (tgt := 38) hx hb dX12_keepTunes_99 (by decide) ?_
                        refine W.widen (k := 0) (n := 0) (Nat.le_of_ble_eq_true rfl) (Nat.le_of_ble_eq_true rfl) ?_
                        exact ih_104 v_147 (0) _ _ _ (by omega) (by omega) (by omega) (by omega) hP hD hS (lv_sub hl [0, 1, 2, 3, 4] rfl)
                      · have q_149 : ¬ r_u_144.toInt = (0 : Int32).toInt := by have := (not_congr (ow_eq _ _)).mp c_145; omega
                        refine lv_iload hx hb dX12_keepTunes_88 (lv_at hl 0 rfl) ?_
                        refine lv_iload_n hx hb dX12_keepTunes_90 rfl (lv_at hl 2 rfl) ?_
                        refine lv_icmp_ge (tgt := 96) hx hb dX12_keepTunes_91 (by decide) (fun c_150 => ?_) (fun c_150 => ?_)
                        · have q_151 : x2_1.toInt ≤ x4_104.toInt := (ow_le _ _).mp c_150
                          obtain ⟨v_152, ev_152⟩ : ∃ y : Int32, y = x4_104 + 1 := ⟨_, rfl⟩
                          refine lv_iinc (v := v_152) (lv' := [(4, .int v_152), (3, .int x3_104), (2, .int x2_1), (0, .ref mo), (1, .int n)]) hx hb dX12_keepTunes_96 hl (k := 0) rfl (by rw [ev_152]; rfl) (by decide) rfl (fun ls hl => ?_)
                          have q_153 : v_152.toInt = x4_104.toInt + 1 := by have := ow_add ev_152 (by omega) (by omega); omega
                          refine lv_goto (tgt := 38) hx hb dX12_keepTunes_99 (by decide) ?_
                          refine W.widen (k := 0) (n := 0) (Nat.le_of_ble_eq_true rfl) (Nat.le_of_ble_eq_true rfl) ?_
                          exact ih_104 v_152 x3_104 _ _ _ (by omega) (by omega) (by omega) (by omega) hP hD hS (lv_sub hl [0, 1, 2, 3, 4] rfl)
                        · have q_154 : x4_104.toInt < x2_1.toInt := by have := (not_congr (ow_le _ _)).mp c_150; omega
                          refine lv_iconst (v := 0) hx hb dX12_keepTunes_94 (by decide) ?_
                          refine lv_istore_n (lv' := [(3, .int 0), (4, .int x4_104), (2, .int x2_1), (0, .ref mo), (1, .int n)]) hx hb dX12_keepTunes_95 rfl hl (by decide) rfl (fun ls hl => ?_)
                          obtain ⟨v_155, ev_155⟩ : ∃ y : Int32, y = x4_104 + 1 := ⟨_, rfl⟩
                          refine lv_iinc (v := v_155) (lv' := [(4, .int v_155), (3, .int 0), (2, .int x2_1), (0, .ref mo), (1, .int n)]) hx hb dX12_keepTunes_96 hl (k := 1) rfl (by rw [ev_155]; rfl) (by decide) rfl (fun ls hl => ?_)
                          have q_156 : v_155.toInt = x4_104.toInt + 1 := by have := ow_add ev_155 (by omega) (by omega); omega
                          refine lv_goto (tgt := 38) hx hb dX12_keepTunes_99 (by decide) ?_
                          refine W.widen (k := 0) (n := 0) (Nat.le_of_ble_eq_true rfl) (Nat.le_of_ble_eq_true rfl) ?_
                          exact ih_104 v_155 (0) _ _ _ (by omega) (by omega) (by omega) (by omega) hP hD hS (lv_sub hl [0, 1, 2, 3, 4] rfl)
          exact lp_104 _ (0) (1) _ _ _ (by omega) (by omega) (by omega) (Nat.lt_succ_self _) hP hD hS (lv_sub hl [0, 1, 2, 3, 4] rfl)
  exact lp_1 _ (0) (va_up v 43 0) nm f g _ _ _ hv hf hR hL FV.rf FF.rf (by omega) (show 0 ≤ (0 : Int32).toInt ∧ (0 : Int32).toInt ≤ 6 from by omega) (show (0 : Int32).toInt ≤ 0 by decide) (Nat.lt_succ_self _) hP hD hS (lv_sub hl [0, 1, 2] rfl)
set_option maxHeartbeats 4000000 in
set_option maxRecDepth 100000 in
theorem m_nextRow (l : Launch) (G : va_G) (cy : Nat → ClassId) (sz : Nat) (mo : Nat) (h : Nat → Nat) (T : Int) (v : Nat → Int32) (nm : Int64) (f : Nat → Nat → Int32) (g : Nat → Nat → Int64)   (hv : MIv T v) (hf : MIf f) (hR : RI v f) (hL : WL v f) (hDS : DS (f 40) (v 43).toInt) : Met l yX12_nextRow (.code yX12_nextRow cX12_nextRow 6 (some .boolean) :: TBg) ({ frames := 1, cells := 0, slots := 0, locals := 64 }) (va_Pc [.ref mo] (En G cy (WMs cy mo h v nm f g) sz)) (va_Qi (fun (r : Int32) (u : (Nat → Int32) × Int64 × (Nat → Nat → Int32) × (Nat → Nat → Int64)) => MIv T u.1 ∧ MIf u.2.2.1 ∧ RI u.1 u.2.2.1 ∧ WL u.1 u.2.2.1 ∧ FV [] v u.1 ∧ FF [40] f u.2.2.1 ∧ ((r.toInt = 0 ∨ r.toInt = 1) ∧ ((r.toInt = 0 ∧ vlt (u.2.2.1 40) = vlt (f 40)) ∨ (r.toInt = 1 ∧ vlt (f 40) < vlt (u.2.2.1 40)))) ∧ (DS (u.2.2.1 40) (v 43).toInt)) (fun u t => Ex G (va_A (WMs cy mo h v nm f g) sz) (WMs cy mo h u.1 u.2.1 u.2.2.1 u.2.2.2) t) (va_A (WMs cy mo h v nm f g) sz)) 0 0 (va_A (WMs cy mo h v nm f g) sz) := by
  refine Met.ofW (cc := cX12_nextRow) (maxL := 6) (ret := (some .boolean)) (by decide) rfl ?_
  intro p e s m args below meth c s₁ B hml hv9
  obtain ⟨rfl, hsz, hP, hK, hD0, hN⟩ := hv9
  have hx := B.exec
  have hb := B.bytes
  have hr := B.returns
  have hts := atoms_spec (ws := .code yX12_nextRow cX12_nextRow 6 (some .boolean) :: TBg) B.pre
  have ht : ∀ w ∈ TBg, w.before _ s = true := fun w h => hts w (List.mem_cons_of_mem _ h)
  have hown : s.vm.findClass RX12 = some m.cls := findClass_of_methodNamed B.named
  have hlocks := B.notSynchronized
  subst hsz
  have hD := hD0.self (sz := s.heap.size)
  generalize hAe : va_A (WMs cy mo h v nm f g) s.heap.size = A at hD ⊢
  have hA : ∀ q : Nat, s.heap.size ≤ q → A q := fun q h => by rw [← hAe]; exact Or.inr h
  have hS : va_S A s.heap s.heap [] := va_S.rf
  have hl := lv_entry ([.ref mo]) (n := 6) (Nat.le_of_ble_eq_true rfl)
  rw [lg_entry_eq]
  generalize (lg_sl ([.ref mo]) ++ List.replicate (6 - (lg_sl ([.ref mo])).length) Slot.unset).toArray = ls at hl ⊢
  have hl : lv_has ls 6 [(0, .ref mo)] := hl
  have z0 : (-1 : Int32).toInt = -1 := by decide
  have z1 : (0 : Int32).toInt = 0 := by decide
  have z2 : (1 : Int32).toInt = 1 := by decide
  have z3 : (2 : Int32).toInt = 2 := by decide
  have hf_0 := hf
  have hV_0 : FV [] v v := FV.rf
  have hF_0 : FF [40] f f := FF.rf
  refine lv_aload_n hx hb dX12_nextRow_0 rfl (lv_at hl 0 rfl) ?_
  refine mg_43 hx hb ht hown hK hP dX12_nextRow_1 ?_
  have q_1 : 0 ≤ (v 43).toInt ∧ (v 43).toInt ≤ 6 := hv 43
  refine lv_iconst (v := 2) hx hb dX12_nextRow_4 (by decide) ?_
  refine lv_isub hx hb dX12_nextRow_5 ?_
  refine lv_topi (fun v_2 ev_2 => ?_)
  have q_3 : v_2.toInt = (v 43).toInt - (2 : Int32).toInt := ow_sub ev_2 (by omega) (by omega)
  refine lv_istore_n (lv' := [(1, .int v_2), (0, .ref mo)]) hx hb dX12_nextRow_6 rfl hl (by decide) rfl (fun ls hl => ?_)
  refine W.widen (k := 0) (n := 0) (Nat.le_of_ble_eq_true rfl) (Nat.le_of_ble_eq_true rfl) ?_
  have lp_4 : ∀ (N_4 : Nat) (x1_4 : Int32) (H : Heap) (locs : List Loc) (ls : Array Slot), (-2 ≤ x1_4.toInt ∧ x1_4.toInt ≤ 4) → (x1_4.toInt ≤ (v 43).toInt - 2) → (x1_4.toInt + 2).toNat < N_4 → va_P G vwCl (WMs cy mo h v nm f g) H → va_D A (WMs cy mo h v nm f g) → va_S A s.heap H locs → lv_has ls 6 [(1, .int x1_4), (0, .ref mo)] → W p l e (headSpec (.code yX12_nextRow cX12_nextRow 6 (some .boolean) :: TBg) ({ frames := 1, cells := 0, slots := 0, locals := 64 })).room s m ([.ref mo] : List Value).toArray below meth c H locs 0 0 (MQ below (va_Qi (fun (r : Int32) (u : (Nat → Int32) × Int64 × (Nat → Nat → Int32) × (Nat → Nat → Int64)) => MIv T u.1 ∧ MIf u.2.2.1 ∧ RI u.1 u.2.2.1 ∧ WL u.1 u.2.2.1 ∧ FV [] v u.1 ∧ FF [40] f u.2.2.1 ∧ ((r.toInt = 0 ∨ r.toInt = 1) ∧ ((r.toInt = 0 ∧ vlt (u.2.2.1 40) = vlt (f 40)) ∨ (r.toInt = 1 ∧ vlt (f 40) < vlt (u.2.2.1 40)))) ∧ (DS (u.2.2.1 40) (v 43).toInt)) (fun u t => Ex G A (WMs cy mo h u.1 u.2.1 u.2.2.1 u.2.2.2) t) A) ([.ref mo] : List Value).toArray s 0 0 A) (F0 m 7 ls []) := by
    intro N_4
    induction N_4 with
    | zero => intro x1_4 H locs ls qf4_0 qf4_1 hm hP hD hS hl; exact absurd hm (Nat.not_lt_zero _)
    | succ N_4 ih_4 =>
      intro x1_4 H locs ls qf4_0 qf4_1 hm hP hD hS hl
      refine lv_iload_n hx hb dX12_nextRow_7 rfl (lv_at hl 0 rfl) ?_
      refine lv_if_lt (tgt := 34) hx hb dX12_nextRow_8 (by decide) (fun c_5 => ?_) (fun c_5 => ?_)
      · have q_6 : x1_4.toInt < (0 : Int32).toInt := (ow_lt _ _).mp c_5
        refine lv_iload_n hx hb dX12_nextRow_34 rfl (lv_at hl 0 rfl) ?_
        refine lv_if_ge (tgt := 40) hx hb dX12_nextRow_35 (by decide) (fun c_7 => ?_) (fun c_7 => ?_)
        · have q_8 : (0 : Int32).toInt ≤ x1_4.toInt := (ow_le _ _).mp c_7
          exfalso
          omega
        · have q_9 : x1_4.toInt < (0 : Int32).toInt := by have := (not_congr (ow_le _ _)).mp c_7; omega
          refine lv_iconst (v := 0) hx hb dX12_nextRow_38 (by decide) ?_
          refine W.widen (k := 0) (n := 0) (Nat.le_of_ble_eq_true rfl) (Nat.le_of_ble_eq_true rfl) ?_
          exact W.zret (v := 0) hx hb hr rfl (fun t ht9 hW => ⟨⟨0, (v, nm, f, g), rfl, ⟨hv, hf, hR, hL, hV_0, hF_0, ⟨by omega, Or.inl ⟨by omega, rfl⟩⟩, hDS⟩, ⟨by rw [ht9]; exact hP, hD⟩⟩, hS.F ht9⟩) hS.2.2 dX12_nextRow_39
      · have q_10 : (0 : Int32).toInt ≤ x1_4.toInt := by have := (not_congr (ow_lt _ _)).mp c_5; omega
        refine lv_aload_n hx hb dX12_nextRow_11 rfl (lv_at hl 1 rfl) ?_
        refine mg_40 hx hb ht hown hK hP dX12_nextRow_12 ?_
        refine lv_iload_n hx hb dX12_nextRow_15 rfl (lv_at hl 0 rfl) ?_
        have q_11 : vp_in x1_4 6 := vp_in_iff.mpr ⟨by omega, by omega⟩
        refine ml_40 hx hb hK hP q_11 dX12_nextRow_16 ?_
        refine lv_topi (fun v_12 ev_12 => ?_)
        have q_13 : 0 ≤ v_12.toInt ∧ v_12.toInt ≤ 5 := by rw [ev_12]; exact MIf.rd 40 hf q_11
        have q_14 : v_12.toInt = ((f 40) (Int32.toNatClampNeg x1_4)).toInt := (congrArg Int32.toInt ev_12).trans (congrArg (fun z : Nat → Int32 => (z (Int32.toNatClampNeg x1_4)).toInt) (show f 40 = (f 40) from rfl))
        refine lv_aload_n hx hb dX12_nextRow_17 rfl (lv_at hl 1 rfl) ?_
        refine mg_40 hx hb ht hown hK hP dX12_nextRow_18 ?_
        refine lv_iload_n hx hb dX12_nextRow_21 rfl (lv_at hl 0 rfl) ?_
        refine lv_iconst (v := 1) hx hb dX12_nextRow_22 (by decide) ?_
        refine lv_iadd hx hb dX12_nextRow_23 ?_
        refine lv_topi (fun v_15 ev_15 => ?_)
        have q_16 : v_15.toInt = x1_4.toInt + (1 : Int32).toInt := ow_add ev_15 (by omega) (by omega)
        have q_17 : vp_in v_15 6 := vp_in_iff.mpr ⟨by omega, by omega⟩
        refine ml_40 hx hb hK hP q_17 dX12_nextRow_24 ?_
        refine lv_topi (fun v_18 ev_18 => ?_)
        have q_19 : 0 ≤ v_18.toInt ∧ v_18.toInt ≤ 5 := by rw [ev_18]; exact MIf.rd 40 hf q_17
        have q_20 : v_18.toInt = ((f 40) (Int32.toNatClampNeg v_15)).toInt := (congrArg Int32.toInt ev_18).trans (congrArg (fun z : Nat → Int32 => (z (Int32.toNatClampNeg v_15)).toInt) (show f 40 = (f 40) from rfl))
        refine lv_icmp_le (tgt := 34) hx hb dX12_nextRow_25 (by decide) (fun c_21 => ?_) (fun c_21 => ?_)
        · have q_22 : v_12.toInt ≤ v_18.toInt := (ow_le _ _).mp c_21
          refine lv_iload_n hx hb dX12_nextRow_34 rfl (lv_at hl 0 rfl) ?_
          refine lv_if_ge (tgt := 40) hx hb dX12_nextRow_35 (by decide) (fun c_23 => ?_) (fun c_23 => ?_)
          · have q_24 : (0 : Int32).toInt ≤ x1_4.toInt := (ow_le _ _).mp c_23
            refine lv_aload_n hx hb dX12_nextRow_40 rfl (lv_at hl 1 rfl) ?_
            refine mg_43 hx hb ht hown hK hP dX12_nextRow_41 ?_
            have q_25 : 0 ≤ (v 43).toInt ∧ (v 43).toInt ≤ 6 := hv 43
            refine lv_iconst (v := 1) hx hb dX12_nextRow_44 (by decide) ?_
            refine lv_isub hx hb dX12_nextRow_45 ?_
            refine lv_topi (fun v_26 ev_26 => ?_)
            have q_27 : v_26.toInt = (v 43).toInt - (1 : Int32).toInt := ow_sub ev_26 (by omega) (by omega)
            refine lv_istore_n (lv' := [(2, .int v_26), (1, .int x1_4), (0, .ref mo)]) hx hb dX12_nextRow_46 rfl hl (by decide) rfl (fun ls hl => ?_)
            refine W.widen (k := 0) (n := 0) (Nat.le_of_ble_eq_true rfl) (Nat.le_of_ble_eq_true rfl) ?_
            have lp_28 : ∀ (N_28 : Nat) (x2_28 : Int32) (H : Heap) (locs : List Loc) (ls : Array Slot), (0 ≤ x2_28.toInt ∧ x2_28.toInt ≤ 5) → (x1_4.toInt + 1 ≤ x2_28.toInt ∧ x2_28.toInt ≤ (v 43).toInt - 1) → (x2_28.toInt).toNat < N_28 → va_P G vwCl (WMs cy mo h v nm f g) H → va_D A (WMs cy mo h v nm f g) → va_S A s.heap H locs → lv_has ls 6 [(2, .int x2_28), (1, .int x1_4), (0, .ref mo)] → W p l e (headSpec (.code yX12_nextRow cX12_nextRow 6 (some .boolean) :: TBg) ({ frames := 1, cells := 0, slots := 0, locals := 64 })).room s m ([.ref mo] : List Value).toArray below meth c H locs 0 0 (MQ below (va_Qi (fun (r : Int32) (u : (Nat → Int32) × Int64 × (Nat → Nat → Int32) × (Nat → Nat → Int64)) => MIv T u.1 ∧ MIf u.2.2.1 ∧ RI u.1 u.2.2.1 ∧ WL u.1 u.2.2.1 ∧ FV [] v u.1 ∧ FF [40] f u.2.2.1 ∧ ((r.toInt = 0 ∨ r.toInt = 1) ∧ ((r.toInt = 0 ∧ vlt (u.2.2.1 40) = vlt (f 40)) ∨ (r.toInt = 1 ∧ vlt (f 40) < vlt (u.2.2.1 40)))) ∧ (DS (u.2.2.1 40) (v 43).toInt)) (fun u t => Ex G A (WMs cy mo h u.1 u.2.1 u.2.2.1 u.2.2.2) t) A) ([.ref mo] : List Value).toArray s 0 0 A) (F0 m 47 ls []) := by
              intro N_28
              induction N_28 with
              | zero => intro x2_28 H locs ls qf28_0 qf28_1 hm hP hD hS hl; exact absurd hm (Nat.not_lt_zero _)
              | succ N_28 ih_28 =>
                intro x2_28 H locs ls qf28_0 qf28_1 hm hP hD hS hl
                refine lv_aload_n hx hb dX12_nextRow_47 rfl (lv_at hl 2 rfl) ?_
                refine mg_40 hx hb ht hown hK hP dX12_nextRow_48 ?_
                refine lv_iload_n hx hb dX12_nextRow_51 rfl (lv_at hl 0 rfl) ?_
                have q_29 : vp_in x2_28 6 := vp_in_iff.mpr ⟨by omega, by omega⟩
                refine ml_40 hx hb hK hP q_29 dX12_nextRow_52 ?_
                refine lv_topi (fun v_30 ev_30 => ?_)
                have q_31 : 0 ≤ v_30.toInt ∧ v_30.toInt ≤ 5 := by rw [ev_30]; exact MIf.rd 40 hf q_29
                have q_32 : v_30.toInt = ((f 40) (Int32.toNatClampNeg x2_28)).toInt := (congrArg Int32.toInt ev_30).trans (congrArg (fun z : Nat → Int32 => (z (Int32.toNatClampNeg x2_28)).toInt) (show f 40 = (f 40) from rfl))
                refine lv_aload_n hx hb dX12_nextRow_53 rfl (lv_at hl 2 rfl) ?_
                refine mg_40 hx hb ht hown hK hP dX12_nextRow_54 ?_
                refine lv_iload_n hx hb dX12_nextRow_57 rfl (lv_at hl 1 rfl) ?_
                have q_33 : vp_in x1_4 6 := vp_in_iff.mpr ⟨by omega, by omega⟩
                refine ml_40 hx hb hK hP q_33 dX12_nextRow_58 ?_
                refine lv_topi (fun v_34 ev_34 => ?_)
                have q_35 : 0 ≤ v_34.toInt ∧ v_34.toInt ≤ 5 := by rw [ev_34]; exact MIf.rd 40 hf q_33
                have q_36 : v_34.toInt = ((f 40) (Int32.toNatClampNeg x1_4)).toInt := (congrArg Int32.toInt ev_34).trans (congrArg (fun z : Nat → Int32 => (z (Int32.toNatClampNeg x1_4)).toInt) (show f 40 = (f 40) from rfl))
                refine lv_icmp_ge (tgt := 68) hx hb dX12_nextRow_59 (by decide) (fun c_37 => ?_) (fun c_37 => ?_)
                · have q_38 : v_34.toInt ≤ v_30.toInt := (ow_le _ _).mp c_37
                  refine lv_aload_n hx hb dX12_nextRow_68 rfl (lv_at hl 2 rfl) ?_
                  refine mg_40 hx hb ht hown hK hP dX12_nextRow_69 ?_
                  refine lv_iload_n hx hb dX12_nextRow_72 rfl (lv_at hl 1 rfl) ?_
                  refine ml_40 hx hb hK hP q_33 dX12_nextRow_73 ?_
                  refine ow_top v_34 ev_34.symm ?_
                  refine lv_istore_n (lv' := [(3, .int v_34), (2, .int x2_28), (1, .int x1_4), (0, .ref mo)]) hx hb dX12_nextRow_74 rfl hl (by decide) rfl (fun ls hl => ?_)
                  refine lv_aload_n hx hb dX12_nextRow_75 rfl (lv_at hl 3 rfl) ?_
                  refine mg_40 hx hb ht hown hK hP dX12_nextRow_76 ?_
                  refine lv_iload_n hx hb dX12_nextRow_79 rfl (lv_at hl 2 rfl) ?_
                  refine lv_aload_n hx hb dX12_nextRow_80 rfl (lv_at hl 3 rfl) ?_
                  refine mg_40 hx hb ht hown hK hP dX12_nextRow_81 ?_
                  refine lv_iload_n hx hb dX12_nextRow_84 rfl (lv_at hl 1 rfl) ?_
                  refine ml_40 hx hb hK hP q_29 dX12_nextRow_85 ?_
                  refine ow_top v_30 ev_30.symm ?_
                  have q_39 : vp_in x1_4 6 := vp_in_iff.mpr ⟨by omega, by omega⟩
                  refine ms_40 hx hb hK hP hD hS q_39 dX12_nextRow_86 (fun H locs hP hD hS => ?_)
                  have hf := MIf.up 40 (i := (Int32.toNatClampNeg x1_4)) hf (show 0 ≤ v_30.toInt ∧ v_30.toInt ≤ 5 from by omega)
                  have hF_0 := FF.up hF_0 40 (upd (f 40) (Int32.toNatClampNeg x1_4) v_30) (by decide)
                  have hL : WL v (va_up f 40 (upd (f 40) (Int32.toNatClampNeg x1_4) v_30)) := WL.upf 40 hL (by decide)
                  have hR : RI v (va_up f 40 (upd (f 40) (Int32.toNatClampNeg x1_4) v_30)) := RI.up 40 hR (by decide)
                  refine lv_aload_n hx hb dX12_nextRow_87 rfl (lv_at hl 3 rfl) ?_
                  refine mg_40 hx hb ht hown hK hP dX12_nextRow_88 ?_
                  refine lv_iload_n hx hb dX12_nextRow_91 rfl (lv_at hl 1 rfl) ?_
                  refine lv_iload_n hx hb dX12_nextRow_92 rfl (lv_at hl 0 rfl) ?_
                  have q_40 : vp_in x2_28 6 := vp_in_iff.mpr ⟨by omega, by omega⟩
                  refine ms_40 hx hb hK hP hD hS q_40 dX12_nextRow_93 (fun H locs hP hD hS => ?_)
                  have hf := MIf.up 40 (i := (Int32.toNatClampNeg x2_28)) hf (show 0 ≤ v_34.toInt ∧ v_34.toInt ≤ 5 from by omega)
                  have hF_0 := FF.up hF_0 40 (upd ((va_up f 40 (upd (f 40) (Int32.toNatClampNeg x1_4) v_30)) 40) (Int32.toNatClampNeg x2_28) v_34) (by decide)
                  have hL : WL v (va_up (va_up f 40 (upd (f 40) (Int32.toNatClampNeg x1_4) v_30)) 40 (upd ((va_up f 40 (upd (f 40) (Int32.toNatClampNeg x1_4) v_30)) 40) (Int32.toNatClampNeg x2_28) v_34)) := WL.upf 40 hL (by decide)
                  have hR : RI v (va_up (va_up f 40 (upd (f 40) (Int32.toNatClampNeg x1_4) v_30)) 40 (upd ((va_up f 40 (upd (f 40) (Int32.toNatClampNeg x1_4) v_30)) 40) (Int32.toNatClampNeg x2_28) v_34)) := RI.up 40 hR (by decide)
                  have eT : (upd (upd (f 40) (Int32.toNatClampNeg x1_4) v_30) (Int32.toNatClampNeg x2_28) v_34) = swp (f 40) (Int32.toNatClampNeg x1_4) (Int32.toNatClampNeg x2_28) := by unfold swp; rw [ev_34, ev_30]
                  have hne : (f 40 (Int32.toNatClampNeg x1_4)).toInt ≠ (f 40 (Int32.toNatClampNeg x2_28)).toInt := hDS (Int32.toNatClampNeg x1_4) (Int32.toNatClampNeg x2_28) (by rw [ow_tn]; omega) (by rw [ow_tn]; omega) (by rw [ow_tn, ow_tn]; omega)
                  have hDS1 : DS (upd (upd (f 40) (Int32.toNatClampNeg x1_4) v_30) (Int32.toNatClampNeg x2_28) v_34) (v 43).toInt := by rw [eT]; exact DS.sw hDS (by rw [ow_tn]; omega) (by rw [ow_tn]; omega)
                  have hLG1 : LG (f 40) (upd (upd (f 40) (Int32.toNatClampNeg x1_4) v_30) (Int32.toNatClampNeg x2_28) v_34) (Int32.toNatClampNeg x1_4) := by rw [eT]; exact LG.of (by rw [ow_tn, ow_tn]; omega) (by omega)
                  refine lv_aload_n hx hb dX12_nextRow_94 rfl (lv_at hl 3 rfl) ?_
                  refine mg_43 hx hb ht hown hK hP dX12_nextRow_95 ?_
                  have q_41 : 0 ≤ (v 43).toInt ∧ (v 43).toInt ≤ 6 := hv 43
                  refine lv_iconst (v := 1) hx hb dX12_nextRow_98 (by decide) ?_
                  refine lv_isub hx hb dX12_nextRow_99 ?_
                  refine lv_topi (fun v_42 ev_42 => ?_)
                  have q_43 : v_42.toInt = (v 43).toInt - (1 : Int32).toInt := ow_sub ev_42 (by omega) (by omega)
                  refine lv_istore (lv' := [(4, .int v_42), (3, .int v_34), (2, .int x2_28), (1, .int x1_4), (0, .ref mo)]) hx hb dX12_nextRow_100 hl (by decide) rfl (fun ls hl => ?_)
                  refine lv_iload_n hx hb dX12_nextRow_102 rfl (lv_at hl 3 rfl) ?_
                  refine lv_iconst (v := 1) hx hb dX12_nextRow_103 (by decide) ?_
                  refine lv_iadd hx hb dX12_nextRow_104 ?_
                  refine lv_topi (fun v_44 ev_44 => ?_)
                  have q_45 : v_44.toInt = x1_4.toInt + (1 : Int32).toInt := ow_add ev_44 (by omega) (by omega)
                  refine lv_istore (lv' := [(5, .int v_44), (4, .int v_42), (3, .int v_34), (2, .int x2_28), (1, .int x1_4), (0, .ref mo)]) hx hb dX12_nextRow_105 hl (by decide) rfl (fun ls hl => ?_)
                  refine W.widen (k := 0) (n := 0) (Nat.le_of_ble_eq_true rfl) (Nat.le_of_ble_eq_true rfl) ?_
                  have lp_46 : ∀ (N_46 : Nat) (x5_46 : Int32) (x4_46 : Int32) (x3_46 : Int32) (v46 : Nat → Int32) (nm46 : Int64) (f46 : Nat → Nat → Int32) (g46 : Nat → Nat → Int64) (H : Heap) (locs : List Loc) (ls : Array Slot), MIv T v46 → MIf f46 → RI v46 f46 → WL v46 f46 → FV [] v v46 → FF [40] (va_up (va_up f 40 (upd (f 40) (Int32.toNatClampNeg x1_4) v_30)) 40 (upd ((va_up f 40 (upd (f 40) (Int32.toNatClampNeg x1_4) v_30)) 40) (Int32.toNatClampNeg x2_28) v_34)) f46 → (0 ≤ x5_46.toInt ∧ x5_46.toInt ≤ 6) → (0 ≤ x4_46.toInt ∧ x4_46.toInt ≤ 5) → (DS (f46 40) (v 43).toInt) → (LG (f 40) (f46 40) (Int32.toNatClampNeg x1_4)) → (x1_4.toInt + 1 ≤ x5_46.toInt ∧ x4_46.toInt ≤ (v 43).toInt - 1 ∧ x1_4.toInt ≤ x4_46.toInt) → (x4_46.toInt - x5_46.toInt).toNat < N_46 → va_P G vwCl (WMs cy mo h v46 nm46 f46 g46) H → va_D A (WMs cy mo h v46 nm46 f46 g46) → va_S A s.heap H locs → lv_has ls 6 [(5, .int x5_46), (4, .int x4_46), (3, .int x3_46), (2, .int x2_28), (1, .int x1_4), (0, .ref mo)] → W p l e (headSpec (.code yX12_nextRow cX12_nextRow 6 (some .boolean) :: TBg) ({ frames := 1, cells := 0, slots := 0, locals := 64 })).room s m ([.ref mo] : List Value).toArray below meth c H locs 0 0 (MQ below (va_Qi (fun (r : Int32) (u : (Nat → Int32) × Int64 × (Nat → Nat → Int32) × (Nat → Nat → Int64)) => MIv T u.1 ∧ MIf u.2.2.1 ∧ RI u.1 u.2.2.1 ∧ WL u.1 u.2.2.1 ∧ FV [] v u.1 ∧ FF [40] f u.2.2.1 ∧ ((r.toInt = 0 ∨ r.toInt = 1) ∧ ((r.toInt = 0 ∧ vlt (u.2.2.1 40) = vlt (f 40)) ∨ (r.toInt = 1 ∧ vlt (f 40) < vlt (u.2.2.1 40)))) ∧ (DS (u.2.2.1 40) (v 43).toInt)) (fun u t => Ex G A (WMs cy mo h u.1 u.2.1 u.2.2.1 u.2.2.2) t) A) ([.ref mo] : List Value).toArray s 0 0 A) (F0 m 107 ls []) := by
                    intro N_46
                    induction N_46 with
                    | zero => intro x5_46 x4_46 x3_46 v46 nm46 f46 g46 H locs ls hv hf hR hL hV_46 hF_46 qf46_0 qf46_1 qf46_2 qf46_3 qf46_4 hm hP hD hS hl; exact absurd hm (Nat.not_lt_zero _)
                    | succ N_46 ih_46 =>
                      intro x5_46 x4_46 x3_46 v46 nm46 f46 g46 H locs ls hv hf hR hL hV_46 hF_46 qf46_0 qf46_1 qf46_2 qf46_3 qf46_4 hm hP hD hS hl
                      have hV_0 := FV.tr hV_0 hV_46 (by decide)
                      have hF_0 := FF.tr hF_0 hF_46 (by decide)
                      have hW_46 := hV_46
                      have hY_46 := hF_46
                      refine lv_iload hx hb dX12_nextRow_107 (lv_at hl 0 rfl) ?_
                      refine lv_iload hx hb dX12_nextRow_109 (lv_at hl 1 rfl) ?_
                      refine lv_icmp_ge (tgt := 153) hx hb dX12_nextRow_111 (by decide) (fun c_47 => ?_) (fun c_47 => ?_)
                      · have q_48 : x4_46.toInt ≤ x5_46.toInt := (ow_le _ _).mp c_47
                        refine lv_iconst (v := 1) hx hb dX12_nextRow_153 (by decide) ?_
                        refine W.widen (k := 0) (n := 0) (Nat.le_of_ble_eq_true rfl) (Nat.le_of_ble_eq_true rfl) ?_
                        exact W.zret (v := 1) hx hb hr rfl (fun t ht9 hW => ⟨⟨1, (v46, nm46, f46, g46), rfl, ⟨hv, hf, hR, hL, hV_0, hF_0, ⟨by omega, Or.inr ⟨by omega, LG.vl qf46_3 (by rw [ow_tn]; omega) (fun k hk => hf_0 40 k hk) (fun k hk => hf 40 k hk)⟩⟩, qf46_2⟩, ⟨by rw [ht9]; exact hP, hD⟩⟩, hS.F ht9⟩) hS.2.2 dX12_nextRow_154
                      · have q_49 : x5_46.toInt < x4_46.toInt := by have := (not_congr (ow_le _ _)).mp c_47; omega
                        refine lv_aload_n hx hb dX12_nextRow_114 rfl (lv_at hl 5 rfl) ?_
                        refine mg_40 hx hb ht hown hK hP dX12_nextRow_115 ?_
                        refine lv_iload hx hb dX12_nextRow_118 (lv_at hl 0 rfl) ?_
                        have q_50 : vp_in x5_46 6 := vp_in_iff.mpr ⟨by omega, by omega⟩
                        refine ml_40 hx hb hK hP q_50 dX12_nextRow_120 ?_
                        refine lv_topi (fun v_51 ev_51 => ?_)
                        have q_52 : 0 ≤ v_51.toInt ∧ v_51.toInt ≤ 5 := by rw [ev_51]; exact MIf.rd 40 hf q_50
                        have q_53 : v_51.toInt = ((f46 40) (Int32.toNatClampNeg x5_46)).toInt := (congrArg Int32.toInt ev_51).trans (congrArg (fun z : Nat → Int32 => (z (Int32.toNatClampNeg x5_46)).toInt) (show f46 40 = (f46 40) from rfl))
                        refine lv_istore_n (lv' := [(3, .int v_51), (5, .int x5_46), (4, .int x4_46), (2, .int x2_28), (1, .int x1_4), (0, .ref mo)]) hx hb dX12_nextRow_121 rfl hl (by decide) rfl (fun ls hl => ?_)
                        refine lv_aload_n hx hb dX12_nextRow_122 rfl (lv_at hl 5 rfl) ?_
                        refine mg_40 hx hb ht hown hK hP dX12_nextRow_123 ?_
                        refine lv_iload hx hb dX12_nextRow_126 (lv_at hl 1 rfl) ?_
                        refine lv_aload_n hx hb dX12_nextRow_128 rfl (lv_at hl 5 rfl) ?_
                        refine mg_40 hx hb ht hown hK hP dX12_nextRow_129 ?_
                        refine lv_iload hx hb dX12_nextRow_132 (lv_at hl 2 rfl) ?_
                        have q_54 : vp_in x4_46 6 := vp_in_iff.mpr ⟨by omega, by omega⟩
                        refine ml_40 hx hb hK hP q_54 dX12_nextRow_134 ?_
                        refine lv_topi (fun v_55 ev_55 => ?_)
                        have q_56 : 0 ≤ v_55.toInt ∧ v_55.toInt ≤ 5 := by rw [ev_55]; exact MIf.rd 40 hf q_54
                        have q_57 : v_55.toInt = ((f46 40) (Int32.toNatClampNeg x4_46)).toInt := (congrArg Int32.toInt ev_55).trans (congrArg (fun z : Nat → Int32 => (z (Int32.toNatClampNeg x4_46)).toInt) (show f46 40 = (f46 40) from rfl))
                        have q_58 : vp_in x5_46 6 := vp_in_iff.mpr ⟨by omega, by omega⟩
                        refine ms_40 hx hb hK hP hD hS q_58 dX12_nextRow_135 (fun H locs hP hD hS => ?_)
                        have hf := MIf.up 40 (i := (Int32.toNatClampNeg x5_46)) hf (show 0 ≤ v_55.toInt ∧ v_55.toInt ≤ 5 from by omega)
                        have hF_0 := FF.up hF_0 40 (upd (f46 40) (Int32.toNatClampNeg x5_46) v_55) (by decide)
                        have hY_46 := FF.up hY_46 40 (upd (f46 40) (Int32.toNatClampNeg x5_46) v_55) (by decide)
                        have hL : WL v46 (va_up f46 40 (upd (f46 40) (Int32.toNatClampNeg x5_46) v_55)) := WL.upf 40 hL (by decide)
                        have hR : RI v46 (va_up f46 40 (upd (f46 40) (Int32.toNatClampNeg x5_46) v_55)) := RI.up 40 hR (by decide)
                        refine lv_aload_n hx hb dX12_nextRow_136 rfl (lv_at hl 5 rfl) ?_
                        refine mg_40 hx hb ht hown hK hP dX12_nextRow_137 ?_
                        refine lv_iload hx hb dX12_nextRow_140 (lv_at hl 2 rfl) ?_
                        refine lv_iload_n hx hb dX12_nextRow_142 rfl (lv_at hl 0 rfl) ?_
                        have q_59 : vp_in x4_46 6 := vp_in_iff.mpr ⟨by omega, by omega⟩
                        refine ms_40 hx hb hK hP hD hS q_59 dX12_nextRow_143 (fun H locs hP hD hS => ?_)
                        have hf := MIf.up 40 (i := (Int32.toNatClampNeg x4_46)) hf (show 0 ≤ v_51.toInt ∧ v_51.toInt ≤ 5 from by omega)
                        have hF_0 := FF.up hF_0 40 (upd ((va_up f46 40 (upd (f46 40) (Int32.toNatClampNeg x5_46) v_55)) 40) (Int32.toNatClampNeg x4_46) v_51) (by decide)
                        have hY_46 := FF.up hY_46 40 (upd ((va_up f46 40 (upd (f46 40) (Int32.toNatClampNeg x5_46) v_55)) 40) (Int32.toNatClampNeg x4_46) v_51) (by decide)
                        have hL : WL v46 (va_up (va_up f46 40 (upd (f46 40) (Int32.toNatClampNeg x5_46) v_55)) 40 (upd ((va_up f46 40 (upd (f46 40) (Int32.toNatClampNeg x5_46) v_55)) 40) (Int32.toNatClampNeg x4_46) v_51)) := WL.upf 40 hL (by decide)
                        have hR : RI v46 (va_up (va_up f46 40 (upd (f46 40) (Int32.toNatClampNeg x5_46) v_55)) 40 (upd ((va_up f46 40 (upd (f46 40) (Int32.toNatClampNeg x5_46) v_55)) 40) (Int32.toNatClampNeg x4_46) v_51)) := RI.up 40 hR (by decide)
                        have eT : (upd (upd (f46 40) (Int32.toNatClampNeg x5_46) v_55) (Int32.toNatClampNeg x4_46) v_51) = swp (f46 40) (Int32.toNatClampNeg x5_46) (Int32.toNatClampNeg x4_46) := by unfold swp; rw [ev_51, ev_55]
                        have hDS1 : DS (upd (upd (f46 40) (Int32.toNatClampNeg x5_46) v_55) (Int32.toNatClampNeg x4_46) v_51) (v 43).toInt := by rw [eT]; exact DS.sw qf46_2 (by rw [ow_tn]; omega) (by rw [ow_tn]; omega)
                        have hLG1 : LG (f 40) (upd (upd (f46 40) (Int32.toNatClampNeg x5_46) v_55) (Int32.toNatClampNeg x4_46) v_51) (Int32.toNatClampNeg x1_4) := by rw [eT]; exact LG.sw qf46_3 (by rw [ow_tn, ow_tn]; omega) (by rw [ow_tn, ow_tn]; omega)
                        obtain ⟨v_60, ev_60⟩ : ∃ y : Int32, y = x4_46 + (-1) := ⟨_, rfl⟩
                        refine lv_iinc (v := v_60) (lv' := [(4, .int v_60), (3, .int v_51), (5, .int x5_46), (2, .int x2_28), (1, .int x1_4), (0, .ref mo)]) hx hb dX12_nextRow_144 hl (k := 2) rfl (by rw [ev_60]; rfl) (by decide) rfl (fun ls hl => ?_)
                        have q_61 : v_60.toInt = x4_46.toInt + -1 := by have := ow_add ev_60 (by omega) (by omega); omega
                        obtain ⟨v_62, ev_62⟩ : ∃ y : Int32, y = x5_46 + 1 := ⟨_, rfl⟩
                        refine lv_iinc (v := v_62) (lv' := [(5, .int v_62), (4, .int v_60), (3, .int v_51), (2, .int x2_28), (1, .int x1_4), (0, .ref mo)]) hx hb dX12_nextRow_147 hl (k := 2) rfl (by rw [ev_62]; rfl) (by decide) rfl (fun ls hl => ?_)
                        have q_63 : v_62.toInt = x5_46.toInt + 1 := by have := ow_add ev_62 (by omega) (by omega); omega
                        refine lv_goto (tgt := 107) hx hb dX12_nextRow_150 (by decide) ?_
                        refine W.widen (k := 0) (n := 0) (Nat.le_of_ble_eq_true rfl) (Nat.le_of_ble_eq_true rfl) ?_
                        exact ih_46 v_62 v_60 v_51 v46 nm46 (va_up (va_up f46 40 (upd (f46 40) (Int32.toNatClampNeg x5_46) v_55)) 40 (upd ((va_up f46 40 (upd (f46 40) (Int32.toNatClampNeg x5_46) v_55)) 40) (Int32.toNatClampNeg x4_46) v_51)) g46 _ _ _ hv hf hR hL hW_46 hY_46 (by omega) (by omega) hDS1 hLG1 (by omega) (by omega) hP hD hS (lv_sub hl [0, 1, 2, 3, 4, 5] rfl)
                  exact lp_46 _ v_44 v_42 v_34 v nm (va_up (va_up f 40 (upd (f 40) (Int32.toNatClampNeg x1_4) v_30)) 40 (upd ((va_up f 40 (upd (f 40) (Int32.toNatClampNeg x1_4) v_30)) 40) (Int32.toNatClampNeg x2_28) v_34)) g _ _ _ hv hf hR hL FV.rf FF.rf (by omega) (by omega) hDS1 hLG1 (by omega) (Nat.lt_succ_self _) hP hD hS (lv_sub hl [0, 1, 2, 3, 4, 5] rfl)
                · have q_64 : v_30.toInt < v_34.toInt := by have := (not_congr (ow_le _ _)).mp c_37; omega
                  obtain ⟨v_65, ev_65⟩ : ∃ y : Int32, y = x2_28 + (-1) := ⟨_, rfl⟩
                  refine lv_iinc (v := v_65) (lv' := [(2, .int v_65), (1, .int x1_4), (0, .ref mo)]) hx hb dX12_nextRow_62 hl (k := 0) rfl (by rw [ev_65]; rfl) (by decide) rfl (fun ls hl => ?_)
                  have q_66 : v_65.toInt = x2_28.toInt + -1 := by have := ow_add ev_65 (by omega) (by omega); omega
                  refine lv_goto (tgt := 47) hx hb dX12_nextRow_65 (by decide) ?_
                  refine W.widen (k := 0) (n := 0) (Nat.le_of_ble_eq_true rfl) (Nat.le_of_ble_eq_true rfl) ?_
                  have hj9 : ¬ x2_28.toInt = x1_4.toInt + 1 := fun e9 => by
                    have e2 : (Int32.toNatClampNeg x2_28) = (Int32.toNatClampNeg v_15) := by rw [ow_tn, ow_tn]; omega
                    have e3 : (f 40 (Int32.toNatClampNeg x2_28)).toInt = (f 40 (Int32.toNatClampNeg v_15)).toInt := by rw [e2]
                    omega
                  exact ih_28 v_65 _ _ _ (by omega) (by omega) (by omega) hP hD hS (lv_sub hl [0, 1, 2] rfl)
            exact lp_28 _ v_26 _ _ _ (by omega) (by omega) (Nat.lt_succ_self _) hP hD hS (lv_sub hl [0, 1, 2] rfl)
          · have q_67 : x1_4.toInt < (0 : Int32).toInt := by have := (not_congr (ow_le _ _)).mp c_23; omega
            exfalso
            omega
        · have q_68 : v_18.toInt < v_12.toInt := by have := (not_congr (ow_le _ _)).mp c_21; omega
          obtain ⟨v_69, ev_69⟩ : ∃ y : Int32, y = x1_4 + (-1) := ⟨_, rfl⟩
          refine lv_iinc (v := v_69) (lv' := [(1, .int v_69), (0, .ref mo)]) hx hb dX12_nextRow_28 hl (k := 0) rfl (by rw [ev_69]; rfl) (by decide) rfl (fun ls hl => ?_)
          have q_70 : v_69.toInt = x1_4.toInt + -1 := by have := ow_add ev_69 (by omega) (by omega); omega
          refine lv_goto (tgt := 7) hx hb dX12_nextRow_31 (by decide) ?_
          refine W.widen (k := 0) (n := 0) (Nat.le_of_ble_eq_true rfl) (Nat.le_of_ble_eq_true rfl) ?_
          exact ih_4 v_69 _ _ _ (by omega) (by omega) (by omega) hP hD hS (lv_sub hl [0, 1] rfl)
  exact lp_4 _ v_2 _ _ _ (by omega) (by omega) (Nat.lt_succ_self _) hP hD hS (lv_sub hl [0, 1] rfl)
theorem idl {t : Nat → Int32} {x x1 : Int32} (h : ∀ k : Nat, (k : Int) < x.toInt → (t k).toInt = k) (h0 : 0 ≤ x.toInt) (h1 : x1.toInt = x.toInt + 1) : ∀ k : Nat, (k : Int) < x1.toInt → (upd t (Int32.toNatClampNeg x) x k).toInt = k := fun k hk => by
  by_cases e : k = Int32.toNatClampNeg x
  · rw [e, pk_us, ow_tn]
    omega
  · rw [pk_un e]
    rw [ow_tn] at e
    exact h k (by omega)
set_option maxHeartbeats 4000000 in
set_option maxRecDepth 100000 in
theorem m_layMaster (l : Launch) (G : va_G) (cy : Nat → ClassId) (sz : Nat) (mo : Nat) (h : Nat → Nat) (T : Int) (v : Nat → Int32) (nm : Int64) (f : Nat → Nat → Int32) (g : Nat → Nat → Int64)   (hv : MIv T v) (hf : MIf f) (hR : RI v f) (hL : WL v f)  : Met l yX12_layMaster (.code yX12_layMaster cX12_layMaster 4 none :: TBg) ({ frames := 2, cells := 0, slots := 0, locals := 128 }) (va_Pc [.ref mo] (En G cy (WMs cy mo h v nm f g) sz)) (va_Qv (fun (u : (Nat → Int32) × Int64 × (Nat → Nat → Int32) × (Nat → Nat → Int64)) => MIv T u.1 ∧ MIf u.2.2.1 ∧ RI u.1 u.2.2.1 ∧ WL u.1 u.2.2.1 ∧ FV [44] v u.1 ∧ FF [39, 40] f u.2.2.1 ∧ (True)) (fun u t => Ex G (va_A (WMs cy mo h v nm f g) sz) (WMs cy mo h u.1 u.2.1 u.2.2.1 u.2.2.2) t) (va_A (WMs cy mo h v nm f g) sz)) 0 0 (va_A (WMs cy mo h v nm f g) sz) := by
  refine Met.ofW (cc := cX12_layMaster) (maxL := 4) (ret := none) (by decide) rfl ?_
  intro p e s m args below meth c s₁ B hml hv9
  obtain ⟨rfl, hsz, hP, hK, hD0, hN⟩ := hv9
  have hx := B.exec
  have hb := B.bytes
  have hr := B.returns
  have hts := atoms_spec (ws := .code yX12_layMaster cX12_layMaster 4 none :: TBg) B.pre
  have ht : ∀ w ∈ TBg, w.before _ s = true := fun w h => hts w (List.mem_cons_of_mem _ h)
  have hown : s.vm.findClass RX12 = some m.cls := findClass_of_methodNamed B.named
  have hlocks := B.notSynchronized
  subst hsz
  have hD := hD0.self (sz := s.heap.size)
  generalize hAe : va_A (WMs cy mo h v nm f g) s.heap.size = A at hD ⊢
  have hA : ∀ q : Nat, s.heap.size ≤ q → A q := fun q h => by rw [← hAe]; exact Or.inr h
  have hS : va_S A s.heap s.heap [] := va_S.rf
  have hl := lv_entry ([.ref mo]) (n := 4) (Nat.le_of_ble_eq_true rfl)
  rw [lg_entry_eq]
  generalize (lg_sl ([.ref mo]) ++ List.replicate (4 - (lg_sl ([.ref mo])).length) Slot.unset).toArray = ls at hl ⊢
  have hl : lv_has ls 4 [(0, .ref mo)] := hl
  have z0 : (-1 : Int32).toInt = -1 := by decide
  have z1 : (0 : Int32).toInt = 0 := by decide
  have z2 : (1 : Int32).toInt = 1 := by decide
  have z3 : (6 : Int32).toInt = 6 := by decide
  have hf_0 := hf
  have hV_0 : FV [44] v v := FV.rf
  have hF_0 : FF [39, 40] f f := FF.rf
  refine lv_aload_n hx hb dX12_layMaster_0 rfl (lv_at hl 0 rfl) ?_
  refine lv_iconst (v := (-1)) hx hb dX12_layMaster_1 (by decide) ?_
  refine mp_44 hx hb ht hown hK hP hD hS dX12_layMaster_2 (fun H locs hP hD hS => ?_)
  have hv := MIv.up 44 hv (ow_any ((-1) : Int32))
  have hL : WL (va_up v 44 (-1)) f := WL.upv 44 hL (by decide)
  have hR : RI (va_up v 44 (-1)) f := RI.upv 44 hR (by decide)
  have hV_0 := FV.up hV_0 44 ((-1)) (by decide)
  refine lv_iconst (v := 0) hx hb dX12_layMaster_5 (by decide) ?_
  refine lv_istore_n (lv' := [(1, .int 0), (0, .ref mo)]) hx hb dX12_layMaster_6 rfl hl (by decide) rfl (fun ls hl => ?_)
  refine W.widen (k := 0) (n := 0) (Nat.le_of_ble_eq_true rfl) (Nat.le_of_ble_eq_true rfl) ?_
  have lp_1 : ∀ (N_1 : Nat) (x1_1 : Int32) (v1 : Nat → Int32) (nm1 : Int64) (f1 : Nat → Nat → Int32) (g1 : Nat → Nat → Int64) (H : Heap) (locs : List Loc) (ls : Array Slot), MIv T v1 → MIf f1 → RI v1 f1 → WL v1 f1 → FV [] (va_up v 44 (-1)) v1 → FF [40] f f1 → (0 ≤ x1_1.toInt ∧ x1_1.toInt ≤ 6) → (∀ k : Nat, (k : Int) < x1_1.toInt → ((f1 40) k).toInt = k) → (6 - x1_1.toInt).toNat < N_1 → va_P G vwCl (WMs cy mo h v1 nm1 f1 g1) H → va_D A (WMs cy mo h v1 nm1 f1 g1) → va_S A s.heap H locs → lv_has ls 4 [(1, .int x1_1), (0, .ref mo)] → W p l e (headSpec (.code yX12_layMaster cX12_layMaster 4 none :: TBg) ({ frames := 2, cells := 0, slots := 0, locals := 128 })).room s m ([.ref mo] : List Value).toArray below meth c H locs 0 0 (MQ below (va_Qv (fun (u : (Nat → Int32) × Int64 × (Nat → Nat → Int32) × (Nat → Nat → Int64)) => MIv T u.1 ∧ MIf u.2.2.1 ∧ RI u.1 u.2.2.1 ∧ WL u.1 u.2.2.1 ∧ FV [44] v u.1 ∧ FF [39, 40] f u.2.2.1 ∧ (True)) (fun u t => Ex G A (WMs cy mo h u.1 u.2.1 u.2.2.1 u.2.2.2) t) A) ([.ref mo] : List Value).toArray s 0 0 A) (F0 m 7 ls []) := by
    intro N_1
    induction N_1 with
    | zero => intro x1_1 v1 nm1 f1 g1 H locs ls hv hf hR hL hV_1 hF_1 qf1_0 qf1_1 hm hP hD hS hl; exact absurd hm (Nat.not_lt_zero _)
    | succ N_1 ih_1 =>
      intro x1_1 v1 nm1 f1 g1 H locs ls hv hf hR hL hV_1 hF_1 qf1_0 qf1_1 hm hP hD hS hl
      have hV_0 := FV.tr hV_0 hV_1 (by decide)
      have hF_0 := FF.tr hF_0 hF_1 (by decide)
      have hW_1 := hV_1
      have hY_1 := hF_1
      refine lv_iload_n hx hb dX12_layMaster_7 rfl (lv_at hl 0 rfl) ?_
      refine lv_aload_n hx hb dX12_layMaster_8 rfl (lv_at hl 1 rfl) ?_
      refine mg_43 hx hb ht hown hK hP dX12_layMaster_9 ?_
      refine ow_top (v 43) (hV_1 43 (by decide)) ?_
      have q_2 : 0 ≤ (v 43).toInt ∧ (v 43).toInt ≤ 6 := by have h9 : v1 43 = (v 43) := (hV_1 43 (by decide)); rw [← h9]; exact hv 43
      refine lv_icmp_ge (tgt := 28) hx hb dX12_layMaster_12 (by decide) (fun c_3 => ?_) (fun c_3 => ?_)
      · have q_4 : (v 43).toInt ≤ x1_1.toInt := (ow_le _ _).mp c_3
        have hDS1 : DS (f1 40) (v 43).toInt := fun a b ha hb hab => by
          rw [qf1_1 a (by omega), qf1_1 b (by omega)]
          omega
        refine lv_iconst (v := 1) hx hb dX12_layMaster_28 (by decide) ?_
        refine lv_istore_n (lv' := [(1, .int 1), (0, .ref mo)]) hx hb dX12_layMaster_29 rfl hl (by decide) rfl (fun ls hl => ?_)
        refine W.widen (k := 0) (n := 0) (Nat.le_of_ble_eq_true rfl) (Nat.le_of_ble_eq_true rfl) ?_
        have lp_5 : ∀ (N_5 : Nat) (x1_5 : Int32) (v5 : Nat → Int32) (nm5 : Int64) (f5 : Nat → Nat → Int32) (g5 : Nat → Nat → Int64) (H : Heap) (locs : List Loc) (ls : Array Slot), MIv T v5 → MIf f5 → RI v5 f5 → WL v5 f5 → FV [44] v1 v5 → FF [39, 40] f1 f5 → (0 ≤ x1_5.toInt ∧ x1_5.toInt ≤ 1) → (DS (f5 40) (v 43).toInt) → (46656 - vlt (f5 40)).toNat + x1_5.toInt.toNat < N_5 → va_P G vwCl (WMs cy mo h v5 nm5 f5 g5) H → va_D A (WMs cy mo h v5 nm5 f5 g5) → va_S A s.heap H locs → lv_has ls 4 [(1, .int x1_5), (0, .ref mo)] → W p l e (headSpec (.code yX12_layMaster cX12_layMaster 4 none :: TBg) ({ frames := 2, cells := 0, slots := 0, locals := 128 })).room s m ([.ref mo] : List Value).toArray below meth c H locs 0 0 (MQ below (va_Qv (fun (u : (Nat → Int32) × Int64 × (Nat → Nat → Int32) × (Nat → Nat → Int64)) => MIv T u.1 ∧ MIf u.2.2.1 ∧ RI u.1 u.2.2.1 ∧ WL u.1 u.2.2.1 ∧ FV [44] v u.1 ∧ FF [39, 40] f u.2.2.1 ∧ (True)) (fun u t => Ex G A (WMs cy mo h u.1 u.2.1 u.2.2.1 u.2.2.2) t) A) ([.ref mo] : List Value).toArray s 0 0 A) (F0 m 30 ls []) := by
          intro N_5
          induction N_5 with
          | zero => intro x1_5 v5 nm5 f5 g5 H locs ls hv hf hR hL hV_5 hF_5 qf5_0 qf5_1 hm hP hD hS hl; exact absurd hm (Nat.not_lt_zero _)
          | succ N_5 ih_5 =>
            intro x1_5 v5 nm5 f5 g5 H locs ls hv hf hR hL hV_5 hF_5 qf5_0 qf5_1 hm hP hD hS hl
            have hV_0 := FV.tr hV_0 hV_5 (by decide)
            have hF_0 := FF.tr hF_0 hF_5 (by decide)
            have hW_5 := hV_5
            have hY_5 := hF_5
            refine lv_iload_n hx hb dX12_layMaster_30 rfl (lv_at hl 0 rfl) ?_
            refine lv_if_eq (tgt := 167) hx hb dX12_layMaster_31 (by decide) (fun c_6 => ?_) (fun c_6 => ?_)
            · have q_7 : x1_5.toInt = (0 : Int32).toInt := (ow_eq _ _).mp c_6
              refine W.widen (k := 0) (n := 0) (Nat.le_of_ble_eq_true rfl) (Nat.le_of_ble_eq_true rfl) ?_
              exact W.vret hx hb hr (fun t ht9 hW => ⟨⟨(v5, nm5, f5, g5), rfl, ⟨hv, hf, hR, hL, hV_0, hF_0, trivial⟩, ⟨by rw [ht9]; exact hP, hD⟩⟩, hS.F ht9⟩) hS.2.2 dX12_layMaster_167
            · have q_8 : ¬ x1_5.toInt = (0 : Int32).toInt := by have := (not_congr (ow_eq _ _)).mp c_6; omega
              refine lv_iconst (v := 0) hx hb dX12_layMaster_34 (by decide) ?_
              refine lv_istore_n (lv' := [(2, .int 0), (1, .int x1_5), (0, .ref mo)]) hx hb dX12_layMaster_35 rfl hl (by decide) rfl (fun ls hl => ?_)
              refine lv_iconst (v := 0) hx hb dX12_layMaster_36 (by decide) ?_
              refine lv_istore_n (lv' := [(3, .int 0), (2, .int 0), (1, .int x1_5), (0, .ref mo)]) hx hb dX12_layMaster_37 rfl hl (by decide) rfl (fun ls hl => ?_)
              refine W.widen (k := 0) (n := 0) (Nat.le_of_ble_eq_true rfl) (Nat.le_of_ble_eq_true rfl) ?_
              have lp_9 : ∀ (N_9 : Nat) (x3_9 : Int32) (x2_9 : Int32) (H : Heap) (locs : List Loc) (ls : Array Slot), (0 ≤ x3_9.toInt ∧ x3_9.toInt ≤ 6) → (6 - x3_9.toInt).toNat < N_9 → va_P G vwCl (WMs cy mo h v5 nm5 f5 g5) H → va_D A (WMs cy mo h v5 nm5 f5 g5) → va_S A s.heap H locs → lv_has ls 4 [(3, .int x3_9), (2, .int x2_9), (1, .int x1_5), (0, .ref mo)] → W p l e (headSpec (.code yX12_layMaster cX12_layMaster 4 none :: TBg) ({ frames := 2, cells := 0, slots := 0, locals := 128 })).room s m ([.ref mo] : List Value).toArray below meth c H locs 0 0 (MQ below (va_Qv (fun (u : (Nat → Int32) × Int64 × (Nat → Nat → Int32) × (Nat → Nat → Int64)) => MIv T u.1 ∧ MIf u.2.2.1 ∧ RI u.1 u.2.2.1 ∧ WL u.1 u.2.2.1 ∧ FV [44] v u.1 ∧ FF [39, 40] f u.2.2.1 ∧ (True)) (fun u t => Ex G A (WMs cy mo h u.1 u.2.1 u.2.2.1 u.2.2.2) t) A) ([.ref mo] : List Value).toArray s 0 0 A) (F0 m 38 ls []) := by
                intro N_9
                induction N_9 with
                | zero => intro x3_9 x2_9 H locs ls qf9_0 hm hP hD hS hl; exact absurd hm (Nat.not_lt_zero _)
                | succ N_9 ih_9 =>
                  intro x3_9 x2_9 H locs ls qf9_0 hm hP hD hS hl
                  refine lv_iload_n hx hb dX12_layMaster_38 rfl (lv_at hl 0 rfl) ?_
                  refine lv_aload_n hx hb dX12_layMaster_39 rfl (lv_at hl 3 rfl) ?_
                  refine mg_43 hx hb ht hown hK hP dX12_layMaster_40 ?_
                  refine ow_top (v 43) ((hV_5 43 (by decide)).trans (hV_1 43 (by decide))) ?_
                  have q_10 : 0 ≤ (v 43).toInt ∧ (v 43).toInt ≤ 6 := by have h9 : v5 43 = (v 43) := ((hV_5 43 (by decide)).trans (hV_1 43 (by decide))); rw [← h9]; exact hv 43
                  refine lv_icmp_ge (tgt := 106) hx hb dX12_layMaster_43 (by decide) (fun c_11 => ?_) (fun c_11 => ?_)
                  · have q_12 : (v 43).toInt ≤ x3_9.toInt := (ow_le _ _).mp c_11
                    refine lv_aload_n hx hb dX12_layMaster_106 rfl (lv_at hl 3 rfl) ?_
                    refine mg_44 hx hb ht hown hK hP dX12_layMaster_107 ?_
                    refine lv_if_lt (tgt := 121) hx hb dX12_layMaster_110 (by decide) (fun c_13 => ?_) (fun c_13 => ?_)
                    · have q_14 : (v5 44).toInt < (0 : Int32).toInt := (ow_lt _ _).mp c_13
                      refine lv_aload_n hx hb dX12_layMaster_121 rfl (lv_at hl 3 rfl) ?_
                      refine lv_iload_n hx hb dX12_layMaster_122 rfl (lv_at hl 1 rfl) ?_
                      refine mp_44 hx hb ht hown hK hP hD hS dX12_layMaster_123 (fun H locs hP hD hS => ?_)
                      have hv := MIv.up 44 hv (ow_any x2_9)
                      have hL : WL (va_up v5 44 x2_9) f5 := WL.upv 44 hL (by decide)
                      have hR : RI (va_up v5 44 x2_9) f5 := RI.upv 44 hR (by decide)
                      have hV_0 := FV.up hV_0 44 x2_9 (by decide)
                      have hW_5 := FV.up hW_5 44 x2_9 (by decide)
                      refine lv_iconst (v := 0) hx hb dX12_layMaster_126 (by decide) ?_
                      refine lv_istore_n (lv' := [(3, .int 0), (2, .int x2_9), (1, .int x1_5), (0, .ref mo)]) hx hb dX12_layMaster_127 rfl hl (by decide) rfl (fun ls hl => ?_)
                      refine W.widen (k := 0) (n := 0) (Nat.le_of_ble_eq_true rfl) (Nat.le_of_ble_eq_true rfl) ?_
                      have lp_15 : ∀ (N_15 : Nat) (x3_15 : Int32) (v15 : Nat → Int32) (nm15 : Int64) (f15 : Nat → Nat → Int32) (g15 : Nat → Nat → Int64) (H : Heap) (locs : List Loc) (ls : Array Slot), MIv T v15 → MIf f15 → RI v15 f15 → WL v15 f15 → FV [] (va_up v5 44 x2_9) v15 → FF [39] f5 f15 → (0 ≤ x3_15.toInt ∧ x3_15.toInt ≤ 6) → (6 - x3_15.toInt).toNat < N_15 → va_P G vwCl (WMs cy mo h v15 nm15 f15 g15) H → va_D A (WMs cy mo h v15 nm15 f15 g15) → va_S A s.heap H locs → lv_has ls 4 [(3, .int x3_15), (2, .int x2_9), (1, .int x1_5), (0, .ref mo)] → W p l e (headSpec (.code yX12_layMaster cX12_layMaster 4 none :: TBg) ({ frames := 2, cells := 0, slots := 0, locals := 128 })).room s m ([.ref mo] : List Value).toArray below meth c H locs 0 0 (MQ below (va_Qv (fun (u : (Nat → Int32) × Int64 × (Nat → Nat → Int32) × (Nat → Nat → Int64)) => MIv T u.1 ∧ MIf u.2.2.1 ∧ RI u.1 u.2.2.1 ∧ WL u.1 u.2.2.1 ∧ FV [44] v u.1 ∧ FF [39, 40] f u.2.2.1 ∧ (True)) (fun u t => Ex G A (WMs cy mo h u.1 u.2.1 u.2.2.1 u.2.2.2) t) A) ([.ref mo] : List Value).toArray s 0 0 A) (F0 m 128 ls []) := by
                        intro N_15
                        induction N_15 with
                        | zero => intro x3_15 v15 nm15 f15 g15 H locs ls hv hf hR hL hV_15 hF_15 qf15_0 hm hP hD hS hl; exact absurd hm (Nat.not_lt_zero _)
                        | succ N_15 ih_15 =>
                          intro x3_15 v15 nm15 f15 g15 H locs ls hv hf hR hL hV_15 hF_15 qf15_0 hm hP hD hS hl
                          have hV_0 := FV.tr hV_0 hV_15 (by decide)
                          have hF_0 := FF.tr hF_0 hF_15 (by decide)
                          have hW_5 := FV.tr hW_5 hV_15 (by decide)
                          have hY_5 := FF.tr hY_5 hF_15 (by decide)
                          have hW_15 := hV_15
                          have hY_15 := hF_15
                          refine lv_iload_n hx hb dX12_layMaster_128 rfl (lv_at hl 0 rfl) ?_
                          refine lv_aload_n hx hb dX12_layMaster_129 rfl (lv_at hl 3 rfl) ?_
                          refine mg_43 hx hb ht hown hK hP dX12_layMaster_130 ?_
                          refine ow_top (v 43) ((hV_15 43 (by decide)).trans ((hV_5 43 (by decide)).trans (hV_1 43 (by decide)))) ?_
                          have q_16 : 0 ≤ (v 43).toInt ∧ (v 43).toInt ≤ 6 := by have h9 : v15 43 = (v 43) := ((hV_15 43 (by decide)).trans ((hV_5 43 (by decide)).trans (hV_1 43 (by decide)))); rw [← h9]; exact hv 43
                          refine lv_icmp_ge (tgt := 159) hx hb dX12_layMaster_133 (by decide) (fun c_17 => ?_) (fun c_17 => ?_)
                          · have q_18 : (v 43).toInt ≤ x3_15.toInt := (ow_le _ _).mp c_17
                            refine lv_aload_n hx hb dX12_layMaster_159 rfl (lv_at hl 3 rfl) ?_
                            have hFc := fr_free hD hS hA
                            refine va_calli (va_runV (As := []) (rest := []) ⟨hx, hb, hml, hown, ht⟩ (m_nextRow l G cy _ mo h T v15 nm15 f15 g15   hv hf hR hL (show DS (f15 40) (v15 43).toInt from by rw [(show v15 43 = (v 43) from ((hV_15 43 (by decide)).trans ((hV_5 43 (by decide)).trans (hV_1 43 (by decide))))), (show f15 40 = (f5 40) from (hF_15 40 (by decide)))]; exact qf5_1)) (cwV 0 ht (gv k_168 k_169 k_170 k_61 k_167) rfl rfl rfl (by decide +kernel) ⟨Nat.le_of_ble_eq_true rfl, Nat.le_of_ble_eq_true rfl⟩) ⟨En.blind, va_recv hK hP (ci := 12) (q0 := 0) rfl rfl, fun U hU hW => ⟨rfl, En.of hU hW hP hK hD hN⟩⟩ rfl rfl hl.1 rfl (lv_room (Nat.le_of_ble_eq_true rfl)) dX12_layMaster_160 ⟨Nat.le_of_ble_eq_true rfl, Nat.le_of_ble_eq_true rfl⟩) hS (fun q _ h => hFc q h) hFc (fun r_u_19 u_19 t9 H locs ht9 hvm hw hB hz1 hk1 hS => ?_)
                            obtain ⟨v19, nm19, f19, g19⟩ := u_19
                            obtain ⟨hP1, hD1⟩ := hB
                            rw [ht9] at hP1
                            obtain ⟨hv, hf, hR, hL, xu_19V, xu_19F, wu_19, xu_19_D⟩ := hw
                            have hP : va_P G vwCl (WMs cy mo h v19 nm19 f19 g19) H := hP1
                            have hD : va_D A (WMs cy mo h v19 nm19 f19 g19) := hD1.weaken (fun _ _ _ h => hFc _ h)
                            dsimp only at hv hf hR hL wu_19 xu_19V xu_19F xu_19_D
                            clear hFc hk1 hz1 hP1 hD1
                            have hV_0 := FV.tr hV_0 xu_19V (by decide)
                            have hF_0 := FF.tr hF_0 xu_19F (by decide)
                            have hW_5 := FV.tr hW_5 xu_19V (by decide)
                            have hY_5 := FF.tr hY_5 xu_19F (by decide)
                            have wu_19 : (r_u_19.toInt = 0 ∨ r_u_19.toInt = 1) ∧ ((r_u_19.toInt = 0 ∧ vlt (f19 40) = vlt (f5 40)) ∨ (r_u_19.toInt = 1 ∧ vlt (f5 40) < vlt (f19 40))) := by
                              have h9 : (r_u_19.toInt = 0 ∨ r_u_19.toInt = 1) ∧ ((r_u_19.toInt = 0 ∧ vlt (f19 40) = vlt (f15 40)) ∨ (r_u_19.toInt = 1 ∧ vlt (f15 40) < vlt (f19 40))) := wu_19
                              rw [(show f15 40 = (f5 40) from (hF_15 40 (by decide)))] at h9
                              exact h9
                            have xu_19_D : DS (f19 40) (v 43).toInt := by
                              have h9 : DS (f19 40) (v15 43).toInt := xu_19_D
                              rw [(show v15 43 = (v 43) from ((hV_15 43 (by decide)).trans ((hV_5 43 (by decide)).trans (hV_1 43 (by decide)))))] at h9
                              exact h9
                            refine lv_istore_n (lv' := [(1, .int r_u_19), (3, .int x3_15), (2, .int x2_9), (0, .ref mo)]) hx hb dX12_layMaster_163 rfl hl (by decide) rfl (fun ls hl => ?_)
                            refine lv_goto (tgt := 30) hx hb dX12_layMaster_164 (by decide) ?_
                            refine W.widen (k := 0) (n := 0) (Nat.le_of_ble_eq_true rfl) (Nat.le_of_ble_eq_true rfl) ?_
                            have g9 := vl_rg (fun k hk => hf 40 k hk)
                            exact ih_5 r_u_19 v19 nm19 f19 g19 _ _ _ hv hf hR hL hW_5 hY_5 (by omega) xu_19_D (show (46656 - vlt (f19 40)).toNat + r_u_19.toInt.toNat < N_5 from by omega) hP hD hS (lv_sub hl [0, 3] rfl)
                          · have q_20 : x3_15.toInt < (v 43).toInt := by have := (not_congr (ow_le _ _)).mp c_17; omega
                            refine lv_aload_n hx hb dX12_layMaster_136 rfl (lv_at hl 3 rfl) ?_
                            refine mg_39 hx hb ht hown hK hP dX12_layMaster_137 ?_
                            refine lv_iload_n hx hb dX12_layMaster_140 rfl (lv_at hl 0 rfl) ?_
                            refine lv_aload_n hx hb dX12_layMaster_141 rfl (lv_at hl 3 rfl) ?_
                            refine mg_41 hx hb ht hown hK hP dX12_layMaster_142 ?_
                            refine lv_aload_n hx hb dX12_layMaster_145 rfl (lv_at hl 3 rfl) ?_
                            refine mg_40 hx hb ht hown hK hP dX12_layMaster_146 ?_
                            refine lv_iload_n hx hb dX12_layMaster_149 rfl (lv_at hl 0 rfl) ?_
                            have q_21 : vp_in x3_15 6 := vp_in_iff.mpr ⟨by omega, by omega⟩
                            refine ml_40 hx hb hK hP q_21 dX12_layMaster_150 ?_
                            refine lv_topi (fun v_22 ev_22 => ?_)
                            have q_23 : 0 ≤ v_22.toInt ∧ v_22.toInt ≤ 5 := by rw [ev_22]; exact MIf.rd 40 hf q_21
                            have q_24 : v_22.toInt = ((f5 40) (Int32.toNatClampNeg x3_15)).toInt := (congrArg Int32.toInt ev_22).trans (congrArg (fun z : Nat → Int32 => (z (Int32.toNatClampNeg x3_15)).toInt) (show f15 40 = (f5 40) from (hF_15 40 (by decide))))
                            have q_25 : vp_in v_22 6 := vp_in_iff.mpr ⟨by omega, by omega⟩
                            refine ml_41 hx hb hK hP q_25 dX12_layMaster_151 ?_
                            refine lv_topi (fun v_26 ev_26 => ?_)
                            have q_27 : 0 ≤ v_26.toInt ∧ v_26.toInt ≤ 13 := by rw [ev_26]; exact MIf.rd 41 hf q_25
                            have q_28 : v_26.toInt = ((f 41) (Int32.toNatClampNeg v_22)).toInt := (congrArg Int32.toInt ev_26).trans (congrArg (fun z : Nat → Int32 => (z (Int32.toNatClampNeg v_22)).toInt) (show f15 41 = (f 41) from ((hF_15 41 (by decide)).trans ((hF_5 41 (by decide)).trans (hF_1 41 (by decide))))))
                            have q_29 : vp_in x3_15 6 := vp_in_iff.mpr ⟨by omega, by omega⟩
                            refine ms_39 hx hb hK hP hD hS q_29 dX12_layMaster_152 (fun H locs hP hD hS => ?_)
                            have hf := MIf.up 39 (i := (Int32.toNatClampNeg x3_15)) hf (ow_any v_26)
                            have hF_0 := FF.up hF_0 39 (upd (f15 39) (Int32.toNatClampNeg x3_15) v_26) (by decide)
                            have hY_5 := FF.up hY_5 39 (upd (f15 39) (Int32.toNatClampNeg x3_15) v_26) (by decide)
                            have hY_15 := FF.up hY_15 39 (upd (f15 39) (Int32.toNatClampNeg x3_15) v_26) (by decide)
                            have hL : WL v15 (va_up f15 39 (upd (f15 39) (Int32.toNatClampNeg x3_15) v_26)) := WL.upf 39 hL (by decide)
                            have hR : RI v15 (va_up f15 39 (upd (f15 39) (Int32.toNatClampNeg x3_15) v_26)) := RI.up 39 hR (by decide)
                            obtain ⟨v_30, ev_30⟩ : ∃ y : Int32, y = x3_15 + 1 := ⟨_, rfl⟩
                            refine lv_iinc (v := v_30) (lv' := [(3, .int v_30), (2, .int x2_9), (1, .int x1_5), (0, .ref mo)]) hx hb dX12_layMaster_153 hl (k := 0) rfl (by rw [ev_30]; rfl) (by decide) rfl (fun ls hl => ?_)
                            have q_31 : v_30.toInt = x3_15.toInt + 1 := by have := ow_add ev_30 (by omega) (by omega); omega
                            refine lv_goto (tgt := 128) hx hb dX12_layMaster_156 (by decide) ?_
                            refine W.widen (k := 0) (n := 0) (Nat.le_of_ble_eq_true rfl) (Nat.le_of_ble_eq_true rfl) ?_
                            exact ih_15 v_30 v15 nm15 (va_up f15 39 (upd (f15 39) (Int32.toNatClampNeg x3_15) v_26)) g15 _ _ _ hv hf hR hL hW_15 hY_15 (by omega) (by omega) hP hD hS (lv_sub hl [0, 1, 2, 3] rfl)
                      exact lp_15 _ (0) (va_up v5 44 x2_9) nm5 f5 g5 _ _ _ hv hf hR hL FV.rf FF.rf (by omega) (Nat.lt_succ_self _) hP hD hS (lv_sub hl [0, 1, 2, 3] rfl)
                    · have q_32 : (0 : Int32).toInt ≤ (v5 44).toInt := by have := (not_congr (ow_lt _ _)).mp c_13; omega
                      refine lv_iload_n hx hb dX12_layMaster_113 rfl (lv_at hl 1 rfl) ?_
                      refine lv_aload_n hx hb dX12_layMaster_114 rfl (lv_at hl 3 rfl) ?_
                      refine mg_44 hx hb ht hown hK hP dX12_layMaster_115 ?_
                      refine lv_icmp_ge (tgt := 159) hx hb dX12_layMaster_118 (by decide) (fun c_33 => ?_) (fun c_33 => ?_)
                      · have q_34 : (v5 44).toInt ≤ x2_9.toInt := (ow_le _ _).mp c_33
                        refine lv_aload_n hx hb dX12_layMaster_159 rfl (lv_at hl 3 rfl) ?_
                        have hFc := fr_free hD hS hA
                        refine va_calli (va_runV (As := []) (rest := []) ⟨hx, hb, hml, hown, ht⟩ (m_nextRow l G cy _ mo h T v5 nm5 f5 g5   hv hf hR hL (show DS (f5 40) (v5 43).toInt from by rw [(show v5 43 = (v 43) from ((hV_5 43 (by decide)).trans (hV_1 43 (by decide))))]; exact qf5_1)) (cwV 0 ht (gv k_168 k_169 k_170 k_61 k_167) rfl rfl rfl (by decide +kernel) ⟨Nat.le_of_ble_eq_true rfl, Nat.le_of_ble_eq_true rfl⟩) ⟨En.blind, va_recv hK hP (ci := 12) (q0 := 0) rfl rfl, fun U hU hW => ⟨rfl, En.of hU hW hP hK hD hN⟩⟩ rfl rfl hl.1 rfl (lv_room (Nat.le_of_ble_eq_true rfl)) dX12_layMaster_160 ⟨Nat.le_of_ble_eq_true rfl, Nat.le_of_ble_eq_true rfl⟩) hS (fun q _ h => hFc q h) hFc (fun r_u_35 u_35 t9 H locs ht9 hvm hw hB hz1 hk1 hS => ?_)
                        obtain ⟨v35, nm35, f35, g35⟩ := u_35
                        obtain ⟨hP1, hD1⟩ := hB
                        rw [ht9] at hP1
                        obtain ⟨hv, hf, hR, hL, xu_35V, xu_35F, wu_35, xu_35_D⟩ := hw
                        have hP : va_P G vwCl (WMs cy mo h v35 nm35 f35 g35) H := hP1
                        have hD : va_D A (WMs cy mo h v35 nm35 f35 g35) := hD1.weaken (fun _ _ _ h => hFc _ h)
                        dsimp only at hv hf hR hL wu_35 xu_35V xu_35F xu_35_D
                        clear hFc hk1 hz1 hP1 hD1
                        have hV_0 := FV.tr hV_0 xu_35V (by decide)
                        have hF_0 := FF.tr hF_0 xu_35F (by decide)
                        have hW_5 := FV.tr hW_5 xu_35V (by decide)
                        have hY_5 := FF.tr hY_5 xu_35F (by decide)
                        have wu_35 : (r_u_35.toInt = 0 ∨ r_u_35.toInt = 1) ∧ ((r_u_35.toInt = 0 ∧ vlt (f35 40) = vlt (f5 40)) ∨ (r_u_35.toInt = 1 ∧ vlt (f5 40) < vlt (f35 40))) := wu_35
                        have xu_35_D : DS (f35 40) (v 43).toInt := by
                          have h9 : DS (f35 40) (v5 43).toInt := xu_35_D
                          rw [(show v5 43 = (v 43) from ((hV_5 43 (by decide)).trans (hV_1 43 (by decide))))] at h9
                          exact h9
                        refine lv_istore_n (lv' := [(1, .int r_u_35), (3, .int x3_9), (2, .int x2_9), (0, .ref mo)]) hx hb dX12_layMaster_163 rfl hl (by decide) rfl (fun ls hl => ?_)
                        refine lv_goto (tgt := 30) hx hb dX12_layMaster_164 (by decide) ?_
                        refine W.widen (k := 0) (n := 0) (Nat.le_of_ble_eq_true rfl) (Nat.le_of_ble_eq_true rfl) ?_
                        have g9 := vl_rg (fun k hk => hf 40 k hk)
                        exact ih_5 r_u_35 v35 nm35 f35 g35 _ _ _ hv hf hR hL hW_5 hY_5 (by omega) xu_35_D (show (46656 - vlt (f35 40)).toNat + r_u_35.toInt.toNat < N_5 from by omega) hP hD hS (lv_sub hl [0, 3] rfl)
                      · have q_36 : x2_9.toInt < (v5 44).toInt := by have := (not_congr (ow_le _ _)).mp c_33; omega
                        refine lv_aload_n hx hb dX12_layMaster_121 rfl (lv_at hl 3 rfl) ?_
                        refine lv_iload_n hx hb dX12_layMaster_122 rfl (lv_at hl 1 rfl) ?_
                        refine mp_44 hx hb ht hown hK hP hD hS dX12_layMaster_123 (fun H locs hP hD hS => ?_)
                        have hv := MIv.up 44 hv (ow_any x2_9)
                        have hL : WL (va_up v5 44 x2_9) f5 := WL.upv 44 hL (by decide)
                        have hR : RI (va_up v5 44 x2_9) f5 := RI.upv 44 hR (by decide)
                        have hV_0 := FV.up hV_0 44 x2_9 (by decide)
                        have hW_5 := FV.up hW_5 44 x2_9 (by decide)
                        refine lv_iconst (v := 0) hx hb dX12_layMaster_126 (by decide) ?_
                        refine lv_istore_n (lv' := [(3, .int 0), (2, .int x2_9), (1, .int x1_5), (0, .ref mo)]) hx hb dX12_layMaster_127 rfl hl (by decide) rfl (fun ls hl => ?_)
                        refine W.widen (k := 0) (n := 0) (Nat.le_of_ble_eq_true rfl) (Nat.le_of_ble_eq_true rfl) ?_
                        have lp_37 : ∀ (N_37 : Nat) (x3_37 : Int32) (v37 : Nat → Int32) (nm37 : Int64) (f37 : Nat → Nat → Int32) (g37 : Nat → Nat → Int64) (H : Heap) (locs : List Loc) (ls : Array Slot), MIv T v37 → MIf f37 → RI v37 f37 → WL v37 f37 → FV [] (va_up v5 44 x2_9) v37 → FF [39] f5 f37 → (0 ≤ x3_37.toInt ∧ x3_37.toInt ≤ 6) → (6 - x3_37.toInt).toNat < N_37 → va_P G vwCl (WMs cy mo h v37 nm37 f37 g37) H → va_D A (WMs cy mo h v37 nm37 f37 g37) → va_S A s.heap H locs → lv_has ls 4 [(3, .int x3_37), (2, .int x2_9), (1, .int x1_5), (0, .ref mo)] → W p l e (headSpec (.code yX12_layMaster cX12_layMaster 4 none :: TBg) ({ frames := 2, cells := 0, slots := 0, locals := 128 })).room s m ([.ref mo] : List Value).toArray below meth c H locs 0 0 (MQ below (va_Qv (fun (u : (Nat → Int32) × Int64 × (Nat → Nat → Int32) × (Nat → Nat → Int64)) => MIv T u.1 ∧ MIf u.2.2.1 ∧ RI u.1 u.2.2.1 ∧ WL u.1 u.2.2.1 ∧ FV [44] v u.1 ∧ FF [39, 40] f u.2.2.1 ∧ (True)) (fun u t => Ex G A (WMs cy mo h u.1 u.2.1 u.2.2.1 u.2.2.2) t) A) ([.ref mo] : List Value).toArray s 0 0 A) (F0 m 128 ls []) := by
                          intro N_37
                          induction N_37 with
                          | zero => intro x3_37 v37 nm37 f37 g37 H locs ls hv hf hR hL hV_37 hF_37 qf37_0 hm hP hD hS hl; exact absurd hm (Nat.not_lt_zero _)
                          | succ N_37 ih_37 =>
                            intro x3_37 v37 nm37 f37 g37 H locs ls hv hf hR hL hV_37 hF_37 qf37_0 hm hP hD hS hl
                            have hV_0 := FV.tr hV_0 hV_37 (by decide)
                            have hF_0 := FF.tr hF_0 hF_37 (by decide)
                            have hW_5 := FV.tr hW_5 hV_37 (by decide)
                            have hY_5 := FF.tr hY_5 hF_37 (by decide)
                            have hW_37 := hV_37
                            have hY_37 := hF_37
                            refine lv_iload_n hx hb dX12_layMaster_128 rfl (lv_at hl 0 rfl) ?_
                            refine lv_aload_n hx hb dX12_layMaster_129 rfl (lv_at hl 3 rfl) ?_
                            refine mg_43 hx hb ht hown hK hP dX12_layMaster_130 ?_
                            refine ow_top (v 43) ((hV_37 43 (by decide)).trans ((hV_5 43 (by decide)).trans (hV_1 43 (by decide)))) ?_
                            have q_38 : 0 ≤ (v 43).toInt ∧ (v 43).toInt ≤ 6 := by have h9 : v37 43 = (v 43) := ((hV_37 43 (by decide)).trans ((hV_5 43 (by decide)).trans (hV_1 43 (by decide)))); rw [← h9]; exact hv 43
                            refine lv_icmp_ge (tgt := 159) hx hb dX12_layMaster_133 (by decide) (fun c_39 => ?_) (fun c_39 => ?_)
                            · have q_40 : (v 43).toInt ≤ x3_37.toInt := (ow_le _ _).mp c_39
                              refine lv_aload_n hx hb dX12_layMaster_159 rfl (lv_at hl 3 rfl) ?_
                              have hFc := fr_free hD hS hA
                              refine va_calli (va_runV (As := []) (rest := []) ⟨hx, hb, hml, hown, ht⟩ (m_nextRow l G cy _ mo h T v37 nm37 f37 g37   hv hf hR hL (show DS (f37 40) (v37 43).toInt from by rw [(show v37 43 = (v 43) from ((hV_37 43 (by decide)).trans ((hV_5 43 (by decide)).trans (hV_1 43 (by decide))))), (show f37 40 = (f5 40) from (hF_37 40 (by decide)))]; exact qf5_1)) (cwV 0 ht (gv k_168 k_169 k_170 k_61 k_167) rfl rfl rfl (by decide +kernel) ⟨Nat.le_of_ble_eq_true rfl, Nat.le_of_ble_eq_true rfl⟩) ⟨En.blind, va_recv hK hP (ci := 12) (q0 := 0) rfl rfl, fun U hU hW => ⟨rfl, En.of hU hW hP hK hD hN⟩⟩ rfl rfl hl.1 rfl (lv_room (Nat.le_of_ble_eq_true rfl)) dX12_layMaster_160 ⟨Nat.le_of_ble_eq_true rfl, Nat.le_of_ble_eq_true rfl⟩) hS (fun q _ h => hFc q h) hFc (fun r_u_41 u_41 t9 H locs ht9 hvm hw hB hz1 hk1 hS => ?_)
                              obtain ⟨v41, nm41, f41, g41⟩ := u_41
                              obtain ⟨hP1, hD1⟩ := hB
                              rw [ht9] at hP1
                              obtain ⟨hv, hf, hR, hL, xu_41V, xu_41F, wu_41, xu_41_D⟩ := hw
                              have hP : va_P G vwCl (WMs cy mo h v41 nm41 f41 g41) H := hP1
                              have hD : va_D A (WMs cy mo h v41 nm41 f41 g41) := hD1.weaken (fun _ _ _ h => hFc _ h)
                              dsimp only at hv hf hR hL wu_41 xu_41V xu_41F xu_41_D
                              clear hFc hk1 hz1 hP1 hD1
                              have hV_0 := FV.tr hV_0 xu_41V (by decide)
                              have hF_0 := FF.tr hF_0 xu_41F (by decide)
                              have hW_5 := FV.tr hW_5 xu_41V (by decide)
                              have hY_5 := FF.tr hY_5 xu_41F (by decide)
                              have wu_41 : (r_u_41.toInt = 0 ∨ r_u_41.toInt = 1) ∧ ((r_u_41.toInt = 0 ∧ vlt (f41 40) = vlt (f5 40)) ∨ (r_u_41.toInt = 1 ∧ vlt (f5 40) < vlt (f41 40))) := by
                                have h9 : (r_u_41.toInt = 0 ∨ r_u_41.toInt = 1) ∧ ((r_u_41.toInt = 0 ∧ vlt (f41 40) = vlt (f37 40)) ∨ (r_u_41.toInt = 1 ∧ vlt (f37 40) < vlt (f41 40))) := wu_41
                                rw [(show f37 40 = (f5 40) from (hF_37 40 (by decide)))] at h9
                                exact h9
                              have xu_41_D : DS (f41 40) (v 43).toInt := by
                                have h9 : DS (f41 40) (v37 43).toInt := xu_41_D
                                rw [(show v37 43 = (v 43) from ((hV_37 43 (by decide)).trans ((hV_5 43 (by decide)).trans (hV_1 43 (by decide)))))] at h9
                                exact h9
                              refine lv_istore_n (lv' := [(1, .int r_u_41), (3, .int x3_37), (2, .int x2_9), (0, .ref mo)]) hx hb dX12_layMaster_163 rfl hl (by decide) rfl (fun ls hl => ?_)
                              refine lv_goto (tgt := 30) hx hb dX12_layMaster_164 (by decide) ?_
                              refine W.widen (k := 0) (n := 0) (Nat.le_of_ble_eq_true rfl) (Nat.le_of_ble_eq_true rfl) ?_
                              have g9 := vl_rg (fun k hk => hf 40 k hk)
                              exact ih_5 r_u_41 v41 nm41 f41 g41 _ _ _ hv hf hR hL hW_5 hY_5 (by omega) xu_41_D (show (46656 - vlt (f41 40)).toNat + r_u_41.toInt.toNat < N_5 from by omega) hP hD hS (lv_sub hl [0, 3] rfl)
                            · have q_42 : x3_37.toInt < (v 43).toInt := by have := (not_congr (ow_le _ _)).mp c_39; omega
                              refine lv_aload_n hx hb dX12_layMaster_136 rfl (lv_at hl 3 rfl) ?_
                              refine mg_39 hx hb ht hown hK hP dX12_layMaster_137 ?_
                              refine lv_iload_n hx hb dX12_layMaster_140 rfl (lv_at hl 0 rfl) ?_
                              refine lv_aload_n hx hb dX12_layMaster_141 rfl (lv_at hl 3 rfl) ?_
                              refine mg_41 hx hb ht hown hK hP dX12_layMaster_142 ?_
                              refine lv_aload_n hx hb dX12_layMaster_145 rfl (lv_at hl 3 rfl) ?_
                              refine mg_40 hx hb ht hown hK hP dX12_layMaster_146 ?_
                              refine lv_iload_n hx hb dX12_layMaster_149 rfl (lv_at hl 0 rfl) ?_
                              have q_43 : vp_in x3_37 6 := vp_in_iff.mpr ⟨by omega, by omega⟩
                              refine ml_40 hx hb hK hP q_43 dX12_layMaster_150 ?_
                              refine lv_topi (fun v_44 ev_44 => ?_)
                              have q_45 : 0 ≤ v_44.toInt ∧ v_44.toInt ≤ 5 := by rw [ev_44]; exact MIf.rd 40 hf q_43
                              have q_46 : v_44.toInt = ((f5 40) (Int32.toNatClampNeg x3_37)).toInt := (congrArg Int32.toInt ev_44).trans (congrArg (fun z : Nat → Int32 => (z (Int32.toNatClampNeg x3_37)).toInt) (show f37 40 = (f5 40) from (hF_37 40 (by decide))))
                              have q_47 : vp_in v_44 6 := vp_in_iff.mpr ⟨by omega, by omega⟩
                              refine ml_41 hx hb hK hP q_47 dX12_layMaster_151 ?_
                              refine lv_topi (fun v_48 ev_48 => ?_)
                              have q_49 : 0 ≤ v_48.toInt ∧ v_48.toInt ≤ 13 := by rw [ev_48]; exact MIf.rd 41 hf q_47
                              have q_50 : v_48.toInt = ((f 41) (Int32.toNatClampNeg v_44)).toInt := (congrArg Int32.toInt ev_48).trans (congrArg (fun z : Nat → Int32 => (z (Int32.toNatClampNeg v_44)).toInt) (show f37 41 = (f 41) from ((hF_37 41 (by decide)).trans ((hF_5 41 (by decide)).trans (hF_1 41 (by decide))))))
                              have q_51 : vp_in x3_37 6 := vp_in_iff.mpr ⟨by omega, by omega⟩
                              refine ms_39 hx hb hK hP hD hS q_51 dX12_layMaster_152 (fun H locs hP hD hS => ?_)
                              have hf := MIf.up 39 (i := (Int32.toNatClampNeg x3_37)) hf (ow_any v_48)
                              have hF_0 := FF.up hF_0 39 (upd (f37 39) (Int32.toNatClampNeg x3_37) v_48) (by decide)
                              have hY_5 := FF.up hY_5 39 (upd (f37 39) (Int32.toNatClampNeg x3_37) v_48) (by decide)
                              have hY_37 := FF.up hY_37 39 (upd (f37 39) (Int32.toNatClampNeg x3_37) v_48) (by decide)
                              have hL : WL v37 (va_up f37 39 (upd (f37 39) (Int32.toNatClampNeg x3_37) v_48)) := WL.upf 39 hL (by decide)
                              have hR : RI v37 (va_up f37 39 (upd (f37 39) (Int32.toNatClampNeg x3_37) v_48)) := RI.up 39 hR (by decide)
                              obtain ⟨v_52, ev_52⟩ : ∃ y : Int32, y = x3_37 + 1 := ⟨_, rfl⟩
                              refine lv_iinc (v := v_52) (lv' := [(3, .int v_52), (2, .int x2_9), (1, .int x1_5), (0, .ref mo)]) hx hb dX12_layMaster_153 hl (k := 0) rfl (by rw [ev_52]; rfl) (by decide) rfl (fun ls hl => ?_)
                              have q_53 : v_52.toInt = x3_37.toInt + 1 := by have := ow_add ev_52 (by omega) (by omega); omega
                              refine lv_goto (tgt := 128) hx hb dX12_layMaster_156 (by decide) ?_
                              refine W.widen (k := 0) (n := 0) (Nat.le_of_ble_eq_true rfl) (Nat.le_of_ble_eq_true rfl) ?_
                              exact ih_37 v_52 v37 nm37 (va_up f37 39 (upd (f37 39) (Int32.toNatClampNeg x3_37) v_48)) g37 _ _ _ hv hf hR hL hW_37 hY_37 (by omega) (by omega) hP hD hS (lv_sub hl [0, 1, 2, 3] rfl)
                        exact lp_37 _ (0) (va_up v5 44 x2_9) nm5 f5 g5 _ _ _ hv hf hR hL FV.rf FF.rf (by omega) (Nat.lt_succ_self _) hP hD hS (lv_sub hl [0, 1, 2, 3] rfl)
                  · have q_54 : x3_9.toInt < (v 43).toInt := by have := (not_congr (ow_le _ _)).mp c_11; omega
                    refine lv_iload_n hx hb dX12_layMaster_46 rfl (lv_at hl 1 rfl) ?_
                    refine lv_aload_n hx hb dX12_layMaster_47 rfl (lv_at hl 3 rfl) ?_
                    refine lv_aload_n hx hb dX12_layMaster_48 rfl (lv_at hl 3 rfl) ?_
                    refine lv_aload_n hx hb dX12_layMaster_49 rfl (lv_at hl 3 rfl) ?_
                    refine mg_41 hx hb ht hown hK hP dX12_layMaster_50 ?_
                    refine lv_aload_n hx hb dX12_layMaster_53 rfl (lv_at hl 3 rfl) ?_
                    refine mg_40 hx hb ht hown hK hP dX12_layMaster_54 ?_
                    refine lv_iload_n hx hb dX12_layMaster_57 rfl (lv_at hl 0 rfl) ?_
                    have q_55 : vp_in x3_9 6 := vp_in_iff.mpr ⟨by omega, by omega⟩
                    refine ml_40 hx hb hK hP q_55 dX12_layMaster_58 ?_
                    refine lv_topi (fun v_56 ev_56 => ?_)
                    have q_57 : 0 ≤ v_56.toInt ∧ v_56.toInt ≤ 5 := by rw [ev_56]; exact MIf.rd 40 hf q_55
                    have q_58 : v_56.toInt = ((f5 40) (Int32.toNatClampNeg x3_9)).toInt := (congrArg Int32.toInt ev_56).trans (congrArg (fun z : Nat → Int32 => (z (Int32.toNatClampNeg x3_9)).toInt) (show f5 40 = (f5 40) from rfl))
                    have q_59 : vp_in v_56 6 := vp_in_iff.mpr ⟨by omega, by omega⟩
                    refine ml_41 hx hb hK hP q_59 dX12_layMaster_59 ?_
                    refine lv_topi (fun v_60 ev_60 => ?_)
                    have q_61 : 0 ≤ v_60.toInt ∧ v_60.toInt ≤ 13 := by rw [ev_60]; exact MIf.rd 41 hf q_59
                    have q_62 : v_60.toInt = ((f 41) (Int32.toNatClampNeg v_56)).toInt := (congrArg Int32.toInt ev_60).trans (congrArg (fun z : Nat → Int32 => (z (Int32.toNatClampNeg v_56)).toInt) (show f5 41 = (f 41) from ((hF_5 41 (by decide)).trans (hF_1 41 (by decide)))))
                    have hFc := fr_new hS hA
                    refine va_calli (va_runV (As := [.int v_60]) (rest := [.ref mo, .int x2_9]) ⟨hx, hb, hml, hown, ht⟩ (m_songOf l G cy _ mo h T v5 nm5 f5 g5 v_60  hv hf hR hL (by omega)) (cwV 1 ht (gv k_94 k_95 k_96 k_61 k_93) rfl rfl rfl (by decide +kernel) ⟨Nat.le_of_ble_eq_true rfl, Nat.le_of_ble_eq_true rfl⟩) ⟨En.blind, va_recv hK hP (ci := 12) (q0 := 0) rfl rfl, fun U hU hW => ⟨rfl, En.of hU hW hP hK hD hN⟩⟩ rfl rfl hl.1 rfl (lv_room (Nat.le_of_ble_eq_true rfl)) dX12_layMaster_60 ⟨Nat.le_of_ble_eq_true rfl, Nat.le_of_ble_eq_true rfl⟩) hS (fun q _ h => hFc q h) hFc (fun r_u_63 u_63 t9 H locs ht9 hvm hw hB hz1 hk1 hS => ?_)
                    have hP := fr_keep hP hk1
                    have wu_63 := hw
                    clear hFc hk1 hz1 hB hw
                    have wu_63 : (0 ≤ r_u_63.toInt ∧ r_u_63.toInt ≤ 27) ∧ r_u_63.toInt = 14 * (v 29).toInt + v_60.toInt := by
                      have h9 : (0 ≤ r_u_63.toInt ∧ r_u_63.toInt ≤ 27) ∧ r_u_63.toInt = 14 * (v5 29).toInt + v_60.toInt := wu_63
                      rw [(show v5 29 = (v 29) from ((hV_5 29 (by decide)).trans (hV_1 29 (by decide))))] at h9
                      exact h9
                    have hFc := fr_new hS hA
                    refine va_calli (va_runV (As := [.int r_u_63]) (rest := [.int x2_9]) ⟨hx, hb, hml, hown, ht⟩ (m_many27 l G cy _ mo h T v5 nm5 f5 g5 r_u_63  hv hf hR hL (by omega)) (cwV 1 ht (gv k_63 k_64 k_65 k_61 k_62) rfl rfl rfl (by decide +kernel) ⟨Nat.le_of_ble_eq_true rfl, Nat.le_of_ble_eq_true rfl⟩) ⟨En.blind, va_recv hK hP (ci := 12) (q0 := 0) rfl rfl, fun U hU hW => ⟨rfl, En.of hU hW hP hK hD hN⟩⟩ rfl rfl hl.1 rfl (lv_room (Nat.le_of_ble_eq_true rfl)) dX12_layMaster_63 ⟨Nat.le_of_ble_eq_true rfl, Nat.le_of_ble_eq_true rfl⟩) hS (fun q _ h => hFc q h) hFc (fun r_u_64 u_64 t9 H locs ht9 hvm hw hB hz1 hk1 hS => ?_)
                    have hP := fr_keep hP hk1
                    have wu_64 := hw
                    clear hFc hk1 hz1 hB hw
                    have wu_64 : (0 ≤ r_u_64.toInt ∧ r_u_64.toInt ≤ 12) ∧ r_u_64.toInt = ((f 15) (Int32.toNatClampNeg r_u_63)).toInt := by
                      have h9 : (0 ≤ r_u_64.toInt ∧ r_u_64.toInt ≤ 12) ∧ r_u_64.toInt = ((f5 15) (Int32.toNatClampNeg r_u_63)).toInt := wu_64
                      rw [(show f5 15 = (f 15) from ((hF_5 15 (by decide)).trans (hF_1 15 (by decide))))] at h9
                      exact h9
                    refine lv_iload_n hx hb dX12_layMaster_66 rfl (lv_at hl 0 rfl) ?_
                    refine lv_if_le (tgt := 96) hx hb dX12_layMaster_67 (by decide) (fun c_65 => ?_) (fun c_65 => ?_)
                    · have q_66 : x3_9.toInt ≤ (0 : Int32).toInt := (ow_le _ _).mp c_65
                      refine lv_iconst (v := 0) hx hb dX12_layMaster_96 (by decide) ?_
                      refine lv_isub hx hb dX12_layMaster_97 ?_
                      refine lv_topi (fun v_67 ev_67 => ?_)
                      have q_68 : v_67.toInt = r_u_64.toInt - (0 : Int32).toInt := ow_sub ev_67 (by omega) (by omega)
                      refine lv_iadd hx hb dX12_layMaster_98 ?_
                      refine lv_topi (fun v_69 ev_69 => ?_)
                      refine lv_istore_n (lv' := [(2, .int v_69), (3, .int x3_9), (1, .int x1_5), (0, .ref mo)]) hx hb dX12_layMaster_99 rfl hl (by decide) rfl (fun ls hl => ?_)
                      obtain ⟨v_70, ev_70⟩ : ∃ y : Int32, y = x3_9 + 1 := ⟨_, rfl⟩
                      refine lv_iinc (v := v_70) (lv' := [(3, .int v_70), (2, .int v_69), (1, .int x1_5), (0, .ref mo)]) hx hb dX12_layMaster_100 hl (k := 1) rfl (by rw [ev_70]; rfl) (by decide) rfl (fun ls hl => ?_)
                      have q_71 : v_70.toInt = x3_9.toInt + 1 := by have := ow_add ev_70 (by omega) (by omega); omega
                      refine lv_goto (tgt := 38) hx hb dX12_layMaster_103 (by decide) ?_
                      refine W.widen (k := 0) (n := 0) (Nat.le_of_ble_eq_true rfl) (Nat.le_of_ble_eq_true rfl) ?_
                      exact ih_9 v_70 v_69 _ _ _ (by omega) (by omega) hP hD hS (lv_sub hl [0, 1, 2, 3] rfl)
                    · have q_72 : (0 : Int32).toInt < x3_9.toInt := by have := (not_congr (ow_le _ _)).mp c_65; omega
                      refine lv_aload_n hx hb dX12_layMaster_70 rfl (lv_at hl 3 rfl) ?_
                      refine mg_42 hx hb ht hown hK hP dX12_layMaster_71 ?_
                      refine lv_bipush (v := 6) hx hb dX12_layMaster_74 (by decide) ?_
                      refine lv_aload_n hx hb dX12_layMaster_76 rfl (lv_at hl 3 rfl) ?_
                      refine mg_40 hx hb ht hown hK hP dX12_layMaster_77 ?_
                      refine lv_iload_n hx hb dX12_layMaster_80 rfl (lv_at hl 0 rfl) ?_
                      refine lv_iconst (v := 1) hx hb dX12_layMaster_81 (by decide) ?_
                      refine lv_isub hx hb dX12_layMaster_82 ?_
                      refine lv_topi (fun v_73 ev_73 => ?_)
                      have q_74 : v_73.toInt = x3_9.toInt - (1 : Int32).toInt := ow_sub ev_73 (by omega) (by omega)
                      have q_75 : vp_in v_73 6 := vp_in_iff.mpr ⟨by omega, by omega⟩
                      refine ml_40 hx hb hK hP q_75 dX12_layMaster_83 ?_
                      refine lv_topi (fun v_76 ev_76 => ?_)
                      have q_77 : 0 ≤ v_76.toInt ∧ v_76.toInt ≤ 5 := by rw [ev_76]; exact MIf.rd 40 hf q_75
                      have q_78 : v_76.toInt = ((f5 40) (Int32.toNatClampNeg v_73)).toInt := (congrArg Int32.toInt ev_76).trans (congrArg (fun z : Nat → Int32 => (z (Int32.toNatClampNeg v_73)).toInt) (show f5 40 = (f5 40) from rfl))
                      refine lv_imul hx hb dX12_layMaster_84 ?_
                      refine lv_topi (fun v_79 ev_79 => ?_)
                      have q_80 : v_79.toInt = 6 * v_76.toInt := ow_mul ev_79 (by decide) (by omega) (by omega)
                      refine lv_aload_n hx hb dX12_layMaster_85 rfl (lv_at hl 3 rfl) ?_
                      refine mg_40 hx hb ht hown hK hP dX12_layMaster_86 ?_
                      refine lv_iload_n hx hb dX12_layMaster_89 rfl (lv_at hl 0 rfl) ?_
                      refine ml_40 hx hb hK hP q_55 dX12_layMaster_90 ?_
                      refine ow_top v_56 ev_56.symm ?_
                      refine lv_iadd hx hb dX12_layMaster_91 ?_
                      refine lv_topi (fun v_81 ev_81 => ?_)
                      have q_82 : v_81.toInt = v_79.toInt + v_56.toInt := ow_add ev_81 (by omega) (by omega)
                      have q_83 : vp_in v_81 36 := vp_in_iff.mpr ⟨by omega, by omega⟩
                      refine ml_42 hx hb hK hP q_83 dX12_layMaster_92 ?_
                      refine lv_topi (fun v_84 ev_84 => ?_)
                      refine lv_goto (tgt := 97) hx hb dX12_layMaster_93 (by decide) ?_
                      refine lv_isub hx hb dX12_layMaster_97 ?_
                      refine lv_topi (fun v_85 ev_85 => ?_)
                      refine lv_iadd hx hb dX12_layMaster_98 ?_
                      refine lv_topi (fun v_86 ev_86 => ?_)
                      refine lv_istore_n (lv' := [(2, .int v_86), (3, .int x3_9), (1, .int x1_5), (0, .ref mo)]) hx hb dX12_layMaster_99 rfl hl (by decide) rfl (fun ls hl => ?_)
                      obtain ⟨v_87, ev_87⟩ : ∃ y : Int32, y = x3_9 + 1 := ⟨_, rfl⟩
                      refine lv_iinc (v := v_87) (lv' := [(3, .int v_87), (2, .int v_86), (1, .int x1_5), (0, .ref mo)]) hx hb dX12_layMaster_100 hl (k := 1) rfl (by rw [ev_87]; rfl) (by decide) rfl (fun ls hl => ?_)
                      have q_88 : v_87.toInt = x3_9.toInt + 1 := by have := ow_add ev_87 (by omega) (by omega); omega
                      refine lv_goto (tgt := 38) hx hb dX12_layMaster_103 (by decide) ?_
                      refine W.widen (k := 0) (n := 0) (Nat.le_of_ble_eq_true rfl) (Nat.le_of_ble_eq_true rfl) ?_
                      exact ih_9 v_87 v_86 _ _ _ (by omega) (by omega) hP hD hS (lv_sub hl [0, 1, 2, 3] rfl)
              exact lp_9 _ (0) (0) _ _ _ (by omega) (Nat.lt_succ_self _) hP hD hS (lv_sub hl [0, 1, 2, 3] rfl)
        exact lp_5 _ (1) v1 nm1 f1 g1 _ _ _ hv hf hR hL FV.rf FF.rf (by omega) hDS1 (Nat.lt_succ_self _) hP hD hS (lv_sub hl [0, 1] rfl)
      · have q_89 : x1_1.toInt < (v 43).toInt := by have := (not_congr (ow_le _ _)).mp c_3; omega
        refine lv_aload_n hx hb dX12_layMaster_15 rfl (lv_at hl 1 rfl) ?_
        refine mg_40 hx hb ht hown hK hP dX12_layMaster_16 ?_
        refine lv_iload_n hx hb dX12_layMaster_19 rfl (lv_at hl 0 rfl) ?_
        refine lv_iload_n hx hb dX12_layMaster_20 rfl (lv_at hl 0 rfl) ?_
        have q_90 : vp_in x1_1 6 := vp_in_iff.mpr ⟨by omega, by omega⟩
        refine ms_40 hx hb hK hP hD hS q_90 dX12_layMaster_21 (fun H locs hP hD hS => ?_)
        have hf := MIf.up 40 (i := (Int32.toNatClampNeg x1_1)) hf (show 0 ≤ x1_1.toInt ∧ x1_1.toInt ≤ 5 from by omega)
        have hF_0 := FF.up hF_0 40 (upd (f1 40) (Int32.toNatClampNeg x1_1) x1_1) (by decide)
        have hY_1 := FF.up hY_1 40 (upd (f1 40) (Int32.toNatClampNeg x1_1) x1_1) (by decide)
        have hL : WL v1 (va_up f1 40 (upd (f1 40) (Int32.toNatClampNeg x1_1) x1_1)) := WL.upf 40 hL (by decide)
        have hR : RI v1 (va_up f1 40 (upd (f1 40) (Int32.toNatClampNeg x1_1) x1_1)) := RI.up 40 hR (by decide)
        obtain ⟨v_91, ev_91⟩ : ∃ y : Int32, y = x1_1 + 1 := ⟨_, rfl⟩
        refine lv_iinc (v := v_91) (lv' := [(1, .int v_91), (0, .ref mo)]) hx hb dX12_layMaster_22 hl (k := 0) rfl (by rw [ev_91]; rfl) (by decide) rfl (fun ls hl => ?_)
        have q_92 : v_91.toInt = x1_1.toInt + 1 := by have := ow_add ev_91 (by omega) (by omega); omega
        refine lv_goto (tgt := 7) hx hb dX12_layMaster_25 (by decide) ?_
        refine W.widen (k := 0) (n := 0) (Nat.le_of_ble_eq_true rfl) (Nat.le_of_ble_eq_true rfl) ?_
        exact ih_1 v_91 v1 nm1 (va_up f1 40 (upd (f1 40) (Int32.toNatClampNeg x1_1) x1_1)) g1 _ _ _ hv hf hR hL hW_1 hY_1 (by omega) (idl qf1_1 (by omega) (by omega)) (by omega) hP hD hS (lv_sub hl [0, 1] rfl)
  exact lp_1 _ (0) (va_up v 44 (-1)) nm f g _ _ _ hv hf hR hL FV.rf FF.rf (by omega) (fun k hk => absurd hk (by omega)) (Nat.lt_succ_self _) hP hD hS (lv_sub hl [0, 1] rfl)
set_option maxHeartbeats 4000000 in
set_option maxRecDepth 100000 in
theorem m_master (l : Launch) (G : va_G) (cy : Nat → ClassId) (sz : Nat) (mo : Nat) (h : Nat → Nat) (T : Int) (v : Nat → Int32) (nm : Int64) (f : Nat → Nat → Int32) (g : Nat → Nat → Int64) (n : Int32) (n2 : Int32)  (hv : MIv T v) (hf : MIf f) (hR : RI v f) (hL : WL v f)  : Met l yX12_master (.code yX12_master cX12_master 3 (some .int) :: TBg) ({ frames := 7, cells := 0, slots := 0, locals := 448 }) (va_Pc [.ref mo, .int n, .int n2] (En G cy (WMs cy mo h v nm f g) sz)) (va_Qi (fun (r : Int32) (u : (Nat → Int32) × Int64 × (Nat → Nat → Int32) × (Nat → Nat → Int64)) => MIv T u.1 ∧ MIf u.2.2.1 ∧ RI u.1 u.2.2.1 ∧ WL u.1 u.2.2.1 ∧ (True)) (fun u t => Ex G (va_A (WMs cy mo h v nm f g) sz) (WMs cy mo h u.1 u.2.1 u.2.2.1 u.2.2.2) t) (va_A (WMs cy mo h v nm f g) sz)) 0 0 (va_A (WMs cy mo h v nm f g) sz) := by
  refine Met.ofW (cc := cX12_master) (maxL := 3) (ret := (some .int)) (by decide) rfl ?_
  intro p e s m args below meth c s₁ B hml hv9
  obtain ⟨rfl, hsz, hP, hK, hD0, hN⟩ := hv9
  have hx := B.exec
  have hb := B.bytes
  have hr := B.returns
  have hts := atoms_spec (ws := .code yX12_master cX12_master 3 (some .int) :: TBg) B.pre
  have ht : ∀ w ∈ TBg, w.before _ s = true := fun w h => hts w (List.mem_cons_of_mem _ h)
  have hown : s.vm.findClass RX12 = some m.cls := findClass_of_methodNamed B.named
  have hlocks := B.notSynchronized
  subst hsz
  have hD := hD0.self (sz := s.heap.size)
  generalize hAe : va_A (WMs cy mo h v nm f g) s.heap.size = A at hD ⊢
  have hA : ∀ q : Nat, s.heap.size ≤ q → A q := fun q h => by rw [← hAe]; exact Or.inr h
  have hS : va_S A s.heap s.heap [] := va_S.rf
  have hl := lv_entry ([.ref mo, .int n, .int n2]) (n := 3) (Nat.le_of_ble_eq_true rfl)
  rw [lg_entry_eq]
  generalize (lg_sl ([.ref mo, .int n, .int n2]) ++ List.replicate (3 - (lg_sl ([.ref mo, .int n, .int n2])).length) Slot.unset).toArray = ls at hl ⊢
  have hl : lv_has ls 3 [(0, .ref mo), (1, .int n), (2, .int n2)] := hl
  have z0 : (-2 : Int32).toInt = -2 := by decide
  have z1 : (-1 : Int32).toInt = -1 := by decide
  have z2 : (0 : Int32).toInt = 0 := by decide
  have z3 : (1 : Int32).toInt = 1 := by decide
  have z4 : (6 : Int32).toInt = 6 := by decide
  refine lv_iload_n hx hb dX12_master_0 rfl (lv_at hl 1 rfl) ?_
  refine lv_if_lt (tgt := 29) hx hb dX12_master_1 (by decide) (fun c_1 => ?_) (fun c_1 => ?_)
  · have q_2 : n.toInt < (0 : Int32).toInt := (ow_lt _ _).mp c_1
    refine lv_iconst (v := (-1)) hx hb dX12_master_29 (by decide) ?_
    refine W.widen (k := 0) (n := 0) (Nat.le_of_ble_eq_true rfl) (Nat.le_of_ble_eq_true rfl) ?_
    exact W.iret (v := (-1)) hx hb hr (fun t ht9 hW => ⟨⟨(-1), (v, nm, f, g), rfl, ⟨hv, hf, hR, hL, trivial⟩, ⟨by rw [ht9]; exact hP, hD⟩⟩, hS.F ht9⟩) hS.2.2 dX12_master_30
  · have q_3 : (0 : Int32).toInt ≤ n.toInt := by have := (not_congr (ow_lt _ _)).mp c_1; omega
    refine lv_iload_n hx hb dX12_master_4 rfl (lv_at hl 1 rfl) ?_
    refine lv_iconst (v := 1) hx hb dX12_master_5 (by decide) ?_
    refine lv_aload_n hx hb dX12_master_6 rfl (lv_at hl 0 rfl) ?_
    refine mg_11 hx hb ht hown hK hP dX12_master_7 ?_
    refine lv_aload_n hx hb dX12_master_10 rfl (lv_at hl 0 rfl) ?_
    refine mg_29 hx hb ht hown hK hP dX12_master_11 ?_
    have q_4 : 0 ≤ (v 29).toInt ∧ (v 29).toInt ≤ 1 := hv 29
    have q_5 : vp_in (v 29) 2 := vp_in_iff.mpr ⟨by omega, by omega⟩
    refine ml_11 hx hb hK hP q_5 dX12_master_14 ?_
    refine lv_topi (fun v_6 ev_6 => ?_)
    have q_7 : 0 ≤ v_6.toInt ∧ v_6.toInt ≤ 14 := by rw [ev_6]; exact MIf.rd 11 hf q_5
    have q_8 : v_6.toInt = ((f 11) (Int32.toNatClampNeg (v 29))).toInt := (congrArg Int32.toInt ev_6).trans (congrArg (fun z : Nat → Int32 => (z (Int32.toNatClampNeg (v 29))).toInt) (show f 11 = (f 11) from rfl))
    refine lv_ishl hx hb dX12_master_15 ?_
    refine lv_topi (fun v_9 ev_9 => ?_)
    refine lv_icmp_ge (tgt := 29) hx hb dX12_master_16 (by decide) (fun c_10 => ?_) (fun c_10 => ?_)
    · have q_11 : v_9.toInt ≤ n.toInt := (ow_le _ _).mp c_10
      refine lv_iconst (v := (-1)) hx hb dX12_master_29 (by decide) ?_
      refine W.widen (k := 0) (n := 0) (Nat.le_of_ble_eq_true rfl) (Nat.le_of_ble_eq_true rfl) ?_
      exact W.iret (v := (-1)) hx hb hr (fun t ht9 hW => ⟨⟨(-1), (v, nm, f, g), rfl, ⟨hv, hf, hR, hL, trivial⟩, ⟨by rw [ht9]; exact hP, hD⟩⟩, hS.F ht9⟩) hS.2.2 dX12_master_30
    · have q_12 : n.toInt < v_9.toInt := by have := (not_congr (ow_le _ _)).mp c_10; omega
      refine lv_iload_n hx hb dX12_master_19 rfl (lv_at hl 2 rfl) ?_
      refine lv_iconst (v := 0) hx hb dX12_master_20 (by decide) ?_
      refine lv_bipush (v := 6) hx hb dX12_master_21 (by decide) ?_
      have hFc := fr_new hS hA
      refine va_calli (va_runS (As := [.int n2, .int 0, .int 6]) (rest := []) ⟨hx, hb, hml, hown, ht⟩ (m_isIn l G cy _  n2 (0) (6)  ) (va_cwS 3 ht (gs k_59 k_60 k_61 k_58) rfl rfl rfl (by decide +kernel) ⟨Nat.le_of_ble_eq_true rfl, Nat.le_of_ble_eq_true rfl⟩) ⟨En.blind, fun U hU hW => ⟨rfl, En.of hU hW (va_P0 (H := _)) hK va_D0 hN⟩⟩ rfl rfl hl.1 rfl (lv_room (Nat.le_of_ble_eq_true rfl)) dX12_master_23 ⟨Nat.le_of_ble_eq_true rfl, Nat.le_of_ble_eq_true rfl⟩) hS (fun q _ h => hFc q h) hFc (fun r_u_13 u_13 t9 H locs ht9 hvm hw hB hz1 hk1 hS => ?_)
      have hP := fr_keep hP hk1
      have wu_13 := hw
      clear hFc hk1 hz1 hB hw
      refine lv_if_ne (tgt := 31) hx hb dX12_master_26 (by decide) (fun c_14 => ?_) (fun c_14 => ?_)
      · have q_15 : ¬ r_u_13.toInt = (0 : Int32).toInt := by have := (not_congr (ow_eq _ _)).mp c_14; omega
        refine lv_iload_n hx hb dX12_master_31 rfl (lv_at hl 1 rfl) ?_
        have hFc := fr_new hS hA
        refine va_calli (va_runS (As := [.int n]) (rest := []) ⟨hx, hb, hml, hown, ht⟩ (m_bitsOf l G cy _  n  ) (va_cwS 1 ht (gs k_153 k_154 k_61 k_152) rfl rfl rfl (by decide +kernel) ⟨Nat.le_of_ble_eq_true rfl, Nat.le_of_ble_eq_true rfl⟩) ⟨En.blind, fun U hU hW => ⟨rfl, En.of hU hW (va_P0 (H := _)) hK va_D0 hN⟩⟩ rfl rfl hl.1 rfl (lv_room (Nat.le_of_ble_eq_true rfl)) dX12_master_32 ⟨Nat.le_of_ble_eq_true rfl, Nat.le_of_ble_eq_true rfl⟩) hS (fun q _ h => hFc q h) hFc (fun r_u_16 u_16 t9 H locs ht9 hvm hw hB hz1 hk1 hS => ?_)
        have hP := fr_keep hP hk1
        have wu_16 := hw
        clear hFc hk1 hz1 hB hw
        refine lv_bipush (v := 6) hx hb dX12_master_35 (by decide) ?_
        refine lv_icmp_le (tgt := 43) hx hb dX12_master_37 (by decide) (fun c_17 => ?_) (fun c_17 => ?_)
        · have q_18 : r_u_16.toInt ≤ (6 : Int32).toInt := (ow_le _ _).mp c_17
          refine lv_aload_n hx hb dX12_master_43 rfl (lv_at hl 0 rfl) ?_
          refine lv_iload_n hx hb dX12_master_44 rfl (lv_at hl 1 rfl) ?_
          have hFc := fr_free hD hS hA
          refine va_callv (va_runV (As := [.int n]) (rest := []) ⟨hx, hb, hml, hown, ht⟩ (m_keepTunes l G cy _ mo h T v nm f g n  hv hf hR hL (show bts n 31 ≤ 6 from by omega)) (cwV 1 ht (gv k_172 k_173 k_174 k_61 k_171) rfl rfl rfl (by decide +kernel) ⟨Nat.le_of_ble_eq_true rfl, Nat.le_of_ble_eq_true rfl⟩) ⟨En.blind, va_recv hK hP (ci := 12) (q0 := 0) rfl rfl, fun U hU hW => ⟨rfl, En.of hU hW hP hK hD hN⟩⟩ rfl rfl hl.1 rfl (lv_room (Nat.le_of_ble_eq_true rfl)) dX12_master_45 ⟨Nat.le_of_ble_eq_true rfl, Nat.le_of_ble_eq_true rfl⟩) hS (fun q _ h => hFc q h) hFc (fun u_19 t9 H locs ht9 hvm hw hB hz1 hk1 hS => ?_)
          obtain ⟨v19, nm19, f19, g19⟩ := u_19
          obtain ⟨hP1, hD1⟩ := hB
          rw [ht9] at hP1
          obtain ⟨hv, hf, hR, hL, xu_19V, xu_19F, wu_19⟩ := hw
          have hP : va_P G vwCl (WMs cy mo h v19 nm19 f19 g19) H := hP1
          have hD : va_D A (WMs cy mo h v19 nm19 f19 g19) := hD1.weaken (fun _ _ _ h => hFc _ h)
          dsimp only at hv hf hR hL wu_19 xu_19V xu_19F
          clear hFc hk1 hz1 hP1 hD1
          refine lv_aload_n hx hb dX12_master_48 rfl (lv_at hl 0 rfl) ?_
          have hFc := fr_free hD hS hA
          refine va_callv (va_runV (As := []) (rest := []) ⟨hx, hb, hml, hown, ht⟩ (m_layMaster l G cy _ mo h T v19 nm19 f19 g19   hv hf hR hL) (cwV 0 ht (gv k_176 k_177 k_178 k_61 k_175) rfl rfl rfl (by decide +kernel) ⟨Nat.le_of_ble_eq_true rfl, Nat.le_of_ble_eq_true rfl⟩) ⟨En.blind, va_recv hK hP (ci := 12) (q0 := 0) rfl rfl, fun U hU hW => ⟨rfl, En.of hU hW hP hK hD hN⟩⟩ rfl rfl hl.1 rfl (lv_room (Nat.le_of_ble_eq_true rfl)) dX12_master_49 ⟨Nat.le_of_ble_eq_true rfl, Nat.le_of_ble_eq_true rfl⟩) hS (fun q _ h => hFc q h) hFc (fun u_20 t9 H locs ht9 hvm hw hB hz1 hk1 hS => ?_)
          obtain ⟨v20, nm20, f20, g20⟩ := u_20
          obtain ⟨hP1, hD1⟩ := hB
          rw [ht9] at hP1
          obtain ⟨hv, hf, hR, hL, xu_20V, xu_20F, wu_20⟩ := hw
          have hP : va_P G vwCl (WMs cy mo h v20 nm20 f20 g20) H := hP1
          have hD : va_D A (WMs cy mo h v20 nm20 f20 g20) := hD1.weaken (fun _ _ _ h => hFc _ h)
          dsimp only at hv hf hR hL wu_20 xu_20V xu_20F
          clear hFc hk1 hz1 hP1 hD1
          refine lv_iload_n hx hb dX12_master_52 rfl (lv_at hl 2 rfl) ?_
          refine lv_if_ne (tgt := 63) hx hb dX12_master_53 (by decide) (fun c_21 => ?_) (fun c_21 => ?_)
          · have q_22 : ¬ n2.toInt = (0 : Int32).toInt := by have := (not_congr (ow_eq _ _)).mp c_21; omega
            refine lv_iload_n hx hb dX12_master_63 rfl (lv_at hl 2 rfl) ?_
            refine lv_aload_n hx hb dX12_master_64 rfl (lv_at hl 0 rfl) ?_
            refine mg_43 hx hb ht hown hK hP dX12_master_65 ?_
            refine ow_top (v19 43) (xu_20V 43 (by decide)) ?_
            have q_23 : 0 ≤ (v19 43).toInt ∧ (v19 43).toInt ≤ 6 := by have h9 : v20 43 = (v19 43) := (xu_20V 43 (by decide)); rw [← h9]; exact hv 43
            refine lv_icmp_gt (tgt := 82) hx hb dX12_master_68 (by decide) (fun c_24 => ?_) (fun c_24 => ?_)
            · have q_25 : (v19 43).toInt < n2.toInt := (ow_lt _ _).mp c_24
              refine lv_iconst (v := (-1)) hx hb dX12_master_82 (by decide) ?_
              refine W.widen (k := 0) (n := 0) (Nat.le_of_ble_eq_true rfl) (Nat.le_of_ble_eq_true rfl) ?_
              exact W.iret (v := (-1)) hx hb hr (fun t ht9 hW => ⟨⟨(-1), (v20, nm20, f20, g20), rfl, ⟨hv, hf, hR, hL, trivial⟩, ⟨by rw [ht9]; exact hP, hD⟩⟩, hS.F ht9⟩) hS.2.2 dX12_master_83
            · have q_26 : n2.toInt ≤ (v19 43).toInt := by have := (not_congr (ow_lt _ _)).mp c_24; omega
              refine lv_aload_n hx hb dX12_master_71 rfl (lv_at hl 0 rfl) ?_
              refine mg_39 hx hb ht hown hK hP dX12_master_72 ?_
              refine lv_iload_n hx hb dX12_master_75 rfl (lv_at hl 2 rfl) ?_
              refine lv_iconst (v := 1) hx hb dX12_master_76 (by decide) ?_
              refine lv_isub hx hb dX12_master_77 ?_
              refine lv_topi (fun v_27 ev_27 => ?_)
              have q_28 : v_27.toInt = n2.toInt - (1 : Int32).toInt := ow_sub ev_27 (by omega) (by omega)
              have q_29 : vp_in v_27 6 := vp_in_iff.mpr ⟨by omega, by omega⟩
              refine ml_39 hx hb hK hP q_29 dX12_master_78 ?_
              refine lv_topi (fun v_30 ev_30 => ?_)
              refine lv_goto (tgt := 83) hx hb dX12_master_79 (by decide) ?_
              refine W.widen (k := 0) (n := 0) (Nat.le_of_ble_eq_true rfl) (Nat.le_of_ble_eq_true rfl) ?_
              exact W.iret (v := v_30) hx hb hr (fun t ht9 hW => ⟨⟨v_30, (v20, nm20, f20, g20), rfl, ⟨hv, hf, hR, hL, trivial⟩, ⟨by rw [ht9]; exact hP, hD⟩⟩, hS.F ht9⟩) hS.2.2 dX12_master_83
          · have q_31 : n2.toInt = (0 : Int32).toInt := (ow_eq _ _).mp c_21
            refine lv_aload_n hx hb dX12_master_56 rfl (lv_at hl 0 rfl) ?_
            refine mg_44 hx hb ht hown hK hP dX12_master_57 ?_
            refine lv_goto (tgt := 83) hx hb dX12_master_60 (by decide) ?_
            refine W.widen (k := 0) (n := 0) (Nat.le_of_ble_eq_true rfl) (Nat.le_of_ble_eq_true rfl) ?_
            exact W.iret (v := (v20 44)) hx hb hr (fun t ht9 hW => ⟨⟨(v20 44), (v20, nm20, f20, g20), rfl, ⟨hv, hf, hR, hL, trivial⟩, ⟨by rw [ht9]; exact hP, hD⟩⟩, hS.F ht9⟩) hS.2.2 dX12_master_83
        · have q_32 : (6 : Int32).toInt < r_u_16.toInt := by have := (not_congr (ow_le _ _)).mp c_17; omega
          refine lv_bipush (v := (-2)) hx hb dX12_master_40 (by decide) ?_
          refine W.widen (k := 0) (n := 0) (Nat.le_of_ble_eq_true rfl) (Nat.le_of_ble_eq_true rfl) ?_
          exact W.iret (v := (-2)) hx hb hr (fun t ht9 hW => ⟨⟨(-2), (v, nm, f, g), rfl, ⟨hv, hf, hR, hL, trivial⟩, ⟨by rw [ht9]; exact hP, hD⟩⟩, hS.F ht9⟩) hS.2.2 dX12_master_42
      · have q_33 : r_u_13.toInt = (0 : Int32).toInt := (ow_eq _ _).mp c_14
        refine lv_iconst (v := (-1)) hx hb dX12_master_29 (by decide) ?_
        refine W.widen (k := 0) (n := 0) (Nat.le_of_ble_eq_true rfl) (Nat.le_of_ble_eq_true rfl) ?_
        exact W.iret (v := (-1)) hx hb hr (fun t ht9 hW => ⟨⟨(-1), (v, nm, f, g), rfl, ⟨hv, hf, hR, hL, trivial⟩, ⟨by rw [ht9]; exact hP, hD⟩⟩, hS.F ht9⟩) hS.2.2 dX12_master_30
set_option maxHeartbeats 4000000 in
set_option maxRecDepth 100000 in
theorem m_highAt (l : Launch) (G : va_G) (cy : Nat → ClassId) (sz : Nat) (mo : Nat) (h : Nat → Nat) (T : Int) (v : Nat → Int32) (nm : Int64) (f : Nat → Nat → Int32) (g : Nat → Nat → Int64) (n : Int32) (n2 : Int32)  (hv : MIv T v) (hf : MIf f) (hR : RI v f) (hL : WL v f) (h_n : 0 ≤ n.toInt ∧ n.toInt ≤ 27) (h_n2 : 0 ≤ n2.toInt ∧ n2.toInt ≤ 107) (hmo : n2.toInt < lsm (f 17) (40 * n.toInt).toNat (f 15 (Int32.toNatClampNeg n)).toInt.toNat) : Met l yX12_highAt (.code yX12_highAt cX12_highAt 5 (some .int) :: TBg) ({ frames := 1, cells := 0, slots := 0, locals := 64 }) (va_Pc [.ref mo, .int n, .int n2] (En G cy (WMs cy mo h v nm f g) sz)) (va_Qi (fun (r : Int32) (_ : Unit) => True) (fun _ _ => True) (va_A [] sz)) 0 0 (va_A [] sz) := by
  refine Met.ofW (cc := cX12_highAt) (maxL := 5) (ret := (some .int)) (by decide) rfl ?_
  intro p e s m args below meth c s₁ B hml hv9
  obtain ⟨rfl, hsz, hP, hK, hD0, hN⟩ := hv9
  have hx := B.exec
  have hb := B.bytes
  have hr := B.returns
  have hts := atoms_spec (ws := .code yX12_highAt cX12_highAt 5 (some .int) :: TBg) B.pre
  have ht : ∀ w ∈ TBg, w.before _ s = true := fun w h => hts w (List.mem_cons_of_mem _ h)
  have hown : s.vm.findClass RX12 = some m.cls := findClass_of_methodNamed B.named
  have hlocks := B.notSynchronized
  subst hsz
  generalize hAe : va_A [] s.heap.size = A at ⊢
  have hA : ∀ q : Nat, s.heap.size ≤ q → A q := fun q h => by rw [← hAe]; exact Or.inr h
  have hS : va_S A s.heap s.heap [] := va_S.rf
  have hl := lv_entry ([.ref mo, .int n, .int n2]) (n := 5) (Nat.le_of_ble_eq_true rfl)
  rw [lg_entry_eq]
  generalize (lg_sl ([.ref mo, .int n, .int n2]) ++ List.replicate (5 - (lg_sl ([.ref mo, .int n, .int n2])).length) Slot.unset).toArray = ls at hl ⊢
  have hl : lv_has ls 5 [(0, .ref mo), (1, .int n), (2, .int n2)] := hl
  have z0 : (0 : Int32).toInt = 0 := by decide
  have z1 : (1 : Int32).toInt = 1 := by decide
  have z2 : (40 : Int32).toInt = 40 := by decide
  have h15 : 0 ≤ (f 15 (Int32.toNatClampNeg n)).toInt ∧ (f 15 (Int32.toNatClampNeg n)).toInt ≤ 12 := hf 15 _ (show Int32.toNatClampNeg n < 30 from by rw [ow_tn]; omega)
  refine lv_iconst (v := 0) hx hb dX12_highAt_0 (by decide) ?_
  refine lv_istore_n (lv' := [(3, .int 0), (0, .ref mo), (1, .int n), (2, .int n2)]) hx hb dX12_highAt_1 rfl hl (by decide) rfl (fun ls hl => ?_)
  refine lv_iload_n hx hb dX12_highAt_2 rfl (lv_at hl 3 rfl) ?_
  refine lv_istore (lv' := [(4, .int n2), (3, .int 0), (0, .ref mo), (1, .int n), (2, .int n2)]) hx hb dX12_highAt_3 hl (by decide) rfl (fun ls hl => ?_)
  refine W.widen (k := 0) (n := 0) (Nat.le_of_ble_eq_true rfl) (Nat.le_of_ble_eq_true rfl) ?_
  have lp_1 : ∀ (N_1 : Nat) (x4_1 : Int32) (x3_1 : Int32) (H : Heap) (locs : List Loc) (ls : Array Slot), (0 ≤ x4_1.toInt ∧ x4_1.toInt ≤ 107) → (0 ≤ x3_1.toInt ∧ x3_1.toInt ≤ 12) → (x3_1.toInt ≤ (f 15 (Int32.toNatClampNeg n)).toInt) → (x4_1.toInt = n2.toInt - lsm (f 17) (40 * n.toInt).toNat x3_1.toInt.toNat) → (12 - x3_1.toInt).toNat < N_1 → va_P G vwCl (WMs cy mo h v nm f g) H → va_S A s.heap H locs → lv_has ls 5 [(4, .int x4_1), (3, .int x3_1), (0, .ref mo), (1, .int n), (2, .int n2)] → W p l e (headSpec (.code yX12_highAt cX12_highAt 5 (some .int) :: TBg) ({ frames := 1, cells := 0, slots := 0, locals := 64 })).room s m ([.ref mo, .int n, .int n2] : List Value).toArray below meth c H locs 0 0 (MQ below (va_Qi (fun (r : Int32) (_ : Unit) => True) (fun _ _ => True) A) ([.ref mo, .int n, .int n2] : List Value).toArray s 0 0 A) (F0 m 5 ls []) := by
    intro N_1
    induction N_1 with
    | zero => intro x4_1 x3_1 H locs ls qf1_0 qf1_1 qf1_2 qf1_3 hm hP hS hl; exact absurd hm (Nat.not_lt_zero _)
    | succ N_1 ih_1 =>
      intro x4_1 x3_1 H locs ls qf1_0 qf1_1 qf1_2 qf1_3 hm hP hS hl
      refine lv_iload hx hb dX12_highAt_5 (lv_at hl 0 rfl) ?_
      refine lv_aload_n hx hb dX12_highAt_7 rfl (lv_at hl 2 rfl) ?_
      refine mg_17 hx hb ht hown hK hP dX12_highAt_8 ?_
      refine lv_bipush (v := 40) hx hb dX12_highAt_11 (by decide) ?_
      refine lv_iload_n hx hb dX12_highAt_13 rfl (lv_at hl 3 rfl) ?_
      refine lv_imul hx hb dX12_highAt_14 ?_
      refine lv_topi (fun v_2 ev_2 => ?_)
      have q_3 : v_2.toInt = 40 * n.toInt := ow_mul ev_2 (by decide) (by omega) (by omega)
      refine lv_iload_n hx hb dX12_highAt_15 rfl (lv_at hl 1 rfl) ?_
      refine lv_iadd hx hb dX12_highAt_16 ?_
      refine lv_topi (fun v_4 ev_4 => ?_)
      have q_5 : v_4.toInt = v_2.toInt + x3_1.toInt := ow_add ev_4 (by omega) (by omega)
      have q_6 : vp_in v_4 1200 := vp_in_iff.mpr ⟨by omega, by omega⟩
      refine ml_17 hx hb hK hP q_6 dX12_highAt_17 ?_
      refine lv_topi (fun v_7 ev_7 => ?_)
      have q_8 : 0 ≤ v_7.toInt ∧ v_7.toInt ≤ 9 := by rw [ev_7]; exact MIf.rd 17 hf q_6
      have q_9 : v_7.toInt = ((f 17) (Int32.toNatClampNeg v_4)).toInt := (congrArg Int32.toInt ev_7).trans (congrArg (fun z : Nat → Int32 => (z (Int32.toNatClampNeg v_4)).toInt) (show f 17 = (f 17) from rfl))
      refine lv_icmp_lt (tgt := 43) hx hb dX12_highAt_18 (by decide) (fun c_10 => ?_) (fun c_10 => ?_)
      · have q_11 : x4_1.toInt < v_7.toInt := (ow_lt _ _).mp c_10
        refine lv_aload_n hx hb dX12_highAt_43 rfl (lv_at hl 2 rfl) ?_
        refine mg_16 hx hb ht hown hK hP dX12_highAt_44 ?_
        refine lv_bipush (v := 40) hx hb dX12_highAt_47 (by decide) ?_
        refine lv_iload_n hx hb dX12_highAt_49 rfl (lv_at hl 3 rfl) ?_
        refine lv_imul hx hb dX12_highAt_50 ?_
        refine lv_topi (fun v_12 ev_12 => ?_)
        have q_13 : v_12.toInt = 40 * n.toInt := ow_mul ev_12 (by decide) (by omega) (by omega)
        refine lv_iload_n hx hb dX12_highAt_51 rfl (lv_at hl 1 rfl) ?_
        refine lv_iadd hx hb dX12_highAt_52 ?_
        refine lv_topi (fun v_14 ev_14 => ?_)
        have q_15 : v_14.toInt = v_12.toInt + x3_1.toInt := ow_add ev_14 (by omega) (by omega)
        have q_16 : vp_in v_14 1200 := vp_in_iff.mpr ⟨by omega, by omega⟩
        refine ml_16 hx hb hK hP q_16 dX12_highAt_53 ?_
        refine lv_topi (fun v_17 ev_17 => ?_)
        refine W.widen (k := 0) (n := 0) (Nat.le_of_ble_eq_true rfl) (Nat.le_of_ble_eq_true rfl) ?_
        exact W.iret (v := v_17) hx hb hr (fun t ht9 hW => ⟨⟨v_17, (), rfl, trivial, trivial⟩, hS.F ht9⟩) hS.2.2 dX12_highAt_54
      · have q_18 : v_7.toInt ≤ x4_1.toInt := by have := (not_congr (ow_lt _ _)).mp c_10; omega
        have hne9 : ¬ x3_1.toInt = (f 15 (Int32.toNatClampNeg n)).toInt := fun e9 => by
          have h9 := qf1_3
          rw [e9] at h9
          omega
        refine lv_iload hx hb dX12_highAt_21 (lv_at hl 0 rfl) ?_
        refine lv_aload_n hx hb dX12_highAt_23 rfl (lv_at hl 2 rfl) ?_
        refine mg_17 hx hb ht hown hK hP dX12_highAt_24 ?_
        refine lv_bipush (v := 40) hx hb dX12_highAt_27 (by decide) ?_
        refine lv_iload_n hx hb dX12_highAt_29 rfl (lv_at hl 3 rfl) ?_
        refine lv_imul hx hb dX12_highAt_30 ?_
        refine lv_topi (fun v_19 ev_19 => ?_)
        have q_20 : v_19.toInt = 40 * n.toInt := ow_mul ev_19 (by decide) (by omega) (by omega)
        refine lv_iload_n hx hb dX12_highAt_31 rfl (lv_at hl 1 rfl) ?_
        refine lv_iadd hx hb dX12_highAt_32 ?_
        refine lv_topi (fun v_21 ev_21 => ?_)
        have q_22 : v_21.toInt = v_19.toInt + x3_1.toInt := ow_add ev_21 (by omega) (by omega)
        have e33 : (f 17 (Int32.toNatClampNeg v_21)).toInt = (f 17 (Int32.toNatClampNeg v_4)).toInt := by rw [show (Int32.toNatClampNeg v_21) = (Int32.toNatClampNeg v_4) from by rw [ow_tn, ow_tn]; omega]
        have q_23 : vp_in v_21 1200 := vp_in_iff.mpr ⟨by omega, by omega⟩
        refine ml_17 hx hb hK hP q_23 dX12_highAt_33 ?_
        refine lv_topi (fun v_24 ev_24 => ?_)
        have q_25 : 0 ≤ v_24.toInt ∧ v_24.toInt ≤ 9 := by rw [ev_24]; exact MIf.rd 17 hf q_23
        have q_26 : v_24.toInt = ((f 17) (Int32.toNatClampNeg v_21)).toInt := (congrArg Int32.toInt ev_24).trans (congrArg (fun z : Nat → Int32 => (z (Int32.toNatClampNeg v_21)).toInt) (show f 17 = (f 17) from rfl))
        refine lv_isub hx hb dX12_highAt_34 ?_
        refine lv_topi (fun v_27 ev_27 => ?_)
        have q_28 : v_27.toInt = x4_1.toInt - v_24.toInt := ow_sub ev_27 (by omega) (by omega)
        refine lv_istore (lv' := [(4, .int v_27), (3, .int x3_1), (0, .ref mo), (1, .int n), (2, .int n2)]) hx hb dX12_highAt_35 hl (by decide) rfl (fun ls hl => ?_)
        obtain ⟨v_29, ev_29⟩ : ∃ y : Int32, y = x3_1 + 1 := ⟨_, rfl⟩
        refine lv_iinc (v := v_29) (lv' := [(3, .int v_29), (4, .int v_27), (0, .ref mo), (1, .int n), (2, .int n2)]) hx hb dX12_highAt_37 hl (k := 1) rfl (by rw [ev_29]; rfl) (by decide) rfl (fun ls hl => ?_)
        have q_30 : v_29.toInt = x3_1.toInt + 1 := by have := ow_add ev_29 (by omega) (by omega); omega
        refine lv_goto (tgt := 5) hx hb dX12_highAt_40 (by decide) ?_
        refine W.widen (k := 0) (n := 0) (Nat.le_of_ble_eq_true rfl) (Nat.le_of_ble_eq_true rfl) ?_
        exact ih_1 v_27 v_29 _ _ _ (by omega) (by omega) (by omega) (by rw [lsm_step (k := x3_1) (k1 := v_29) (j := v_4) (by omega) (by omega) (by omega)]; omega) (by omega) hP hS (lv_sub hl [1, 0, 2, 3, 4] rfl)
  exact lp_1 _ n2 (0) _ _ _ (by omega) (by omega) (by omega) (by show n2.toInt = n2.toInt - 0; omega) (Nat.lt_succ_self _) hP hS (lv_sub hl [0, 1, 2, 3, 4] rfl)
set_option maxHeartbeats 4000000 in
set_option maxRecDepth 100000 in
theorem m_roundOf (l : Launch) (G : va_G) (cy : Nat → ClassId) (sz : Nat) (mo : Nat) (h : Nat → Nat) (T : Int) (v : Nat → Int32) (nm : Int64) (f : Nat → Nat → Int32) (g : Nat → Nat → Int64) (n : Int32) (n2 : Int32)  (hv : MIv T v) (hf : MIf f) (hR : RI v f) (hL : WL v f) (h_n : 0 ≤ n.toInt ∧ n.toInt ≤ 27) (h_n2 : 1 ≤ n2.toInt ∧ n2.toInt ≤ 99) : Met l yX12_roundOf (.code yX12_roundOf cX12_roundOf 5 (some .int) :: TBg) ({ frames := 3, cells := 0, slots := 0, locals := 192 }) (va_Pc [.ref mo, .int n, .int n2] (En G cy (WMs cy mo h v nm f g) sz)) (va_Qi (fun (r : Int32) (_ : Unit) => True) (fun _ _ => True) (va_A [] sz)) 0 0 (va_A [] sz) := by
  refine Met.ofW (cc := cX12_roundOf) (maxL := 5) (ret := (some .int)) (by decide) rfl ?_
  intro p e s m args below meth c s₁ B hml hv9
  obtain ⟨rfl, hsz, hP, hK, hD0, hN⟩ := hv9
  have hx := B.exec
  have hb := B.bytes
  have hr := B.returns
  have hts := atoms_spec (ws := .code yX12_roundOf cX12_roundOf 5 (some .int) :: TBg) B.pre
  have ht : ∀ w ∈ TBg, w.before _ s = true := fun w h => hts w (List.mem_cons_of_mem _ h)
  have hown : s.vm.findClass RX12 = some m.cls := findClass_of_methodNamed B.named
  have hlocks := B.notSynchronized
  subst hsz
  generalize hAe : va_A [] s.heap.size = A at ⊢
  have hA : ∀ q : Nat, s.heap.size ≤ q → A q := fun q h => by rw [← hAe]; exact Or.inr h
  have hS : va_S A s.heap s.heap [] := va_S.rf
  have hl := lv_entry ([.ref mo, .int n, .int n2]) (n := 5) (Nat.le_of_ble_eq_true rfl)
  rw [lg_entry_eq]
  generalize (lg_sl ([.ref mo, .int n, .int n2]) ++ List.replicate (5 - (lg_sl ([.ref mo, .int n, .int n2])).length) Slot.unset).toArray = ls at hl ⊢
  have hl : lv_has ls 5 [(0, .ref mo), (1, .int n), (2, .int n2)] := hl
  have z0 : (0 : Int32).toInt = 0 := by decide
  have z1 : (1 : Int32).toInt = 1 := by decide
  refine lv_iconst (v := 0) hx hb dX12_roundOf_0 (by decide) ?_
  refine lv_istore_n (lv' := [(3, .int 0), (0, .ref mo), (1, .int n), (2, .int n2)]) hx hb dX12_roundOf_1 rfl hl (by decide) rfl (fun ls hl => ?_)
  refine lv_iload_n hx hb dX12_roundOf_2 rfl (lv_at hl 3 rfl) ?_
  refine lv_istore (lv' := [(4, .int n2), (3, .int 0), (0, .ref mo), (1, .int n), (2, .int n2)]) hx hb dX12_roundOf_3 hl (by decide) rfl (fun ls hl => ?_)
  refine W.widen (k := 0) (n := 0) (Nat.le_of_ble_eq_true rfl) (Nat.le_of_ble_eq_true rfl) ?_
  have lp_1 : ∀ (N_1 : Nat) (x4_1 : Int32) (x3_1 : Int32) (H : Heap) (locs : List Loc) (ls : Array Slot), (1 ≤ x4_1.toInt ∧ x4_1.toInt ≤ 199) → (n2.toInt ≤ x4_1.toInt) → (200 - x4_1.toInt).toNat < N_1 → va_P G vwCl (WMs cy mo h v nm f g) H → va_S A s.heap H locs → lv_has ls 5 [(4, .int x4_1), (3, .int x3_1), (0, .ref mo), (1, .int n), (2, .int n2)] → W p l e (headSpec (.code yX12_roundOf cX12_roundOf 5 (some .int) :: TBg) ({ frames := 3, cells := 0, slots := 0, locals := 192 })).room s m ([.ref mo, .int n, .int n2] : List Value).toArray below meth c H locs 0 0 (MQ below (va_Qi (fun (r : Int32) (_ : Unit) => True) (fun _ _ => True) A) ([.ref mo, .int n, .int n2] : List Value).toArray s 0 0 A) (F0 m 5 ls []) := by
    intro N_1
    induction N_1 with
    | zero => intro x4_1 x3_1 H locs ls qf1_0 qf1_1 hm hP hS hl; exact absurd hm (Nat.not_lt_zero _)
    | succ N_1 ih_1 =>
      intro x4_1 x3_1 H locs ls qf1_0 qf1_1 hm hP hS hl
      refine lv_iload hx hb dX12_roundOf_5 (lv_at hl 0 rfl) ?_
      refine lv_aload_n hx hb dX12_roundOf_7 rfl (lv_at hl 2 rfl) ?_
      refine lv_iload_n hx hb dX12_roundOf_8 rfl (lv_at hl 3 rfl) ?_
      have hFc := fr_new hS hA
      refine va_calli (va_runV (As := [.int n]) (rest := [.int x4_1]) ⟨hx, hb, hml, hown, ht⟩ (m_lengthOf l G cy _ mo h T v nm f g n  hv hf hR hL (by omega)) (cwV 1 ht (gv k_180 k_181 k_182 k_61 k_179) rfl rfl rfl (by decide +kernel) ⟨Nat.le_of_ble_eq_true rfl, Nat.le_of_ble_eq_true rfl⟩) ⟨En.blind, va_recv hK hP (ci := 12) (q0 := 0) rfl rfl, fun U hU hW => ⟨rfl, En.of hU hW hP hK hD0 hN⟩⟩ rfl rfl hl.1 rfl (lv_room (Nat.le_of_ble_eq_true rfl)) dX12_roundOf_9 ⟨Nat.le_of_ble_eq_true rfl, Nat.le_of_ble_eq_true rfl⟩) hS (fun q _ h => hFc q h) hFc (fun r_u_2 u_2 t9 H locs ht9 hvm hw hB hz1 hk1 hS => ?_)
      have hP := fr_keep hP hk1
      have wu_2 := hw
      clear hFc hk1 hz1 hB hw
      refine lv_icmp_ge (tgt := 67) hx hb dX12_roundOf_12 (by decide) (fun c_3 => ?_) (fun c_3 => ?_)
      · have q_4 : r_u_2.toInt ≤ x4_1.toInt := (ow_le _ _).mp c_3
        refine lv_iload_n hx hb dX12_roundOf_67 rfl (lv_at hl 1 rfl) ?_
        refine W.widen (k := 0) (n := 0) (Nat.le_of_ble_eq_true rfl) (Nat.le_of_ble_eq_true rfl) ?_
        exact W.iret (v := x3_1) hx hb hr (fun t ht9 hW => ⟨⟨x3_1, (), rfl, trivial, trivial⟩, hS.F ht9⟩) hS.2.2 dX12_roundOf_68
      · have q_5 : x4_1.toInt < r_u_2.toInt := by have := (not_congr (ow_le _ _)).mp c_3; omega
        refine lv_iload_n hx hb dX12_roundOf_15 rfl (lv_at hl 1 rfl) ?_
        refine lv_aload_n hx hb dX12_roundOf_16 rfl (lv_at hl 2 rfl) ?_
        refine mg_14 hx hb ht hown hK hP dX12_roundOf_17 ?_
        refine lv_aload_n hx hb dX12_roundOf_20 rfl (lv_at hl 2 rfl) ?_
        refine mg_29 hx hb ht hown hK hP dX12_roundOf_21 ?_
        have q_6 : 0 ≤ (v 29).toInt ∧ (v 29).toInt ≤ 1 := hv 29
        have q_7 : vp_in (v 29) 2 := vp_in_iff.mpr ⟨by omega, by omega⟩
        refine ml_14 hx hb hK hP q_7 dX12_roundOf_24 ?_
        refine lv_topi (fun v_8 ev_8 => ?_)
        refine lv_aload_n hx hb dX12_roundOf_25 rfl (lv_at hl 2 rfl) ?_
        refine lv_iload_n hx hb dX12_roundOf_26 rfl (lv_at hl 3 rfl) ?_
        refine lv_iload hx hb dX12_roundOf_27 (lv_at hl 0 rfl) ?_
        have hFc := fr_new hS hA
        refine va_calli (va_runV (As := [.int n, .int x4_1]) (rest := [.int v_8, .int x3_1]) ⟨hx, hb, hml, hown, ht⟩ (m_highAt l G cy _ mo h T v nm f g n x4_1  hv hf hR hL (by omega) (by omega) (show x4_1.toInt < lsm (f 17) (40 * n.toInt).toNat (f 15 (Int32.toNatClampNeg n)).toInt.toNat from by omega)) (cwV 2 ht (gv k_184 k_185 k_186 k_61 k_183) rfl rfl rfl (by decide +kernel) ⟨Nat.le_of_ble_eq_true rfl, Nat.le_of_ble_eq_true rfl⟩) ⟨En.blind, va_recv hK hP (ci := 12) (q0 := 0) rfl rfl, fun U hU hW => ⟨rfl, En.of hU hW hP hK hD0 hN⟩⟩ rfl rfl hl.1 rfl (lv_room (Nat.le_of_ble_eq_true rfl)) dX12_roundOf_29 ⟨Nat.le_of_ble_eq_true rfl, Nat.le_of_ble_eq_true rfl⟩) hS (fun q _ h => hFc q h) hFc (fun r_u_9 u_9 t9 H locs ht9 hvm hw hB hz1 hk1 hS => ?_)
        have hP := fr_keep hP hk1
        have wu_9 := hw
        clear hFc hk1 hz1 hB hw
        refine lv_aload_n hx hb dX12_roundOf_32 rfl (lv_at hl 2 rfl) ?_
        refine lv_iload_n hx hb dX12_roundOf_33 rfl (lv_at hl 3 rfl) ?_
        refine lv_iload hx hb dX12_roundOf_34 (lv_at hl 0 rfl) ?_
        refine lv_iload_n hx hb dX12_roundOf_36 rfl (lv_at hl 4 rfl) ?_
        refine lv_isub hx hb dX12_roundOf_37 ?_
        refine lv_topi (fun v_10 ev_10 => ?_)
        have q_11 : v_10.toInt = x4_1.toInt - n2.toInt := ow_sub ev_10 (by omega) (by omega)
        have hFc := fr_new hS hA
        refine va_calli (va_runV (As := [.int n, .int v_10]) (rest := [.int r_u_9, .int v_8, .int x3_1]) ⟨hx, hb, hml, hown, ht⟩ (m_highAt l G cy _ mo h T v nm f g n v_10  hv hf hR hL (by omega) (by omega) (show v_10.toInt < lsm (f 17) (40 * n.toInt).toNat (f 15 (Int32.toNatClampNeg n)).toInt.toNat from by omega)) (cwV 2 ht (gv k_184 k_185 k_186 k_61 k_183) rfl rfl rfl (by decide +kernel) ⟨Nat.le_of_ble_eq_true rfl, Nat.le_of_ble_eq_true rfl⟩) ⟨En.blind, va_recv hK hP (ci := 12) (q0 := 0) rfl rfl, fun U hU hW => ⟨rfl, En.of hU hW hP hK hD0 hN⟩⟩ rfl rfl hl.1 rfl (lv_room (Nat.le_of_ble_eq_true rfl)) dX12_roundOf_38 ⟨Nat.le_of_ble_eq_true rfl, Nat.le_of_ble_eq_true rfl⟩) hS (fun q _ h => hFc q h) hFc (fun r_u_12 u_12 t9 H locs ht9 hvm hw hB hz1 hk1 hS => ?_)
        have hP := fr_keep hP hk1
        have wu_12 := hw
        clear hFc hk1 hz1 hB hw
        refine lv_isub hx hb dX12_roundOf_41 ?_
        refine lv_topi (fun v_13 ev_13 => ?_)
        have hFc := fr_new hS hA
        refine va_calli (va_runS (As := [.int v_13]) (rest := [.int v_8, .int x3_1]) ⟨hx, hb, hml, hown, ht⟩ (m_away l G cy _  v_13  ) (va_cwS 1 ht (gs k_75 k_76 k_61 k_74) rfl rfl rfl (by decide +kernel) ⟨Nat.le_of_ble_eq_true rfl, Nat.le_of_ble_eq_true rfl⟩) ⟨En.blind, fun U hU hW => ⟨rfl, En.of hU hW (va_P0 (H := _)) hK va_D0 hN⟩⟩ rfl rfl hl.1 rfl (lv_room (Nat.le_of_ble_eq_true rfl)) dX12_roundOf_42 ⟨Nat.le_of_ble_eq_true rfl, Nat.le_of_ble_eq_true rfl⟩) hS (fun q _ h => hFc q h) hFc (fun r_u_14 u_14 t9 H locs ht9 hvm hw hB hz1 hk1 hS => ?_)
        have hP := fr_keep hP hk1
        have wu_14 := hw
        clear hFc hk1 hz1 hB hw
        refine lv_bipush (v := 12) hx hb dX12_roundOf_45 (by decide) ?_
        refine lv_irem hx hb dX12_roundOf_47 (by decide) ?_
        refine lv_topi (fun v_15 ev_15 => ?_)
        refine lv_ishr hx hb dX12_roundOf_48 ?_
        refine lv_topi (fun v_16 ev_16 => ?_)
        refine lv_iconst (v := 1) hx hb dX12_roundOf_49 (by decide) ?_
        refine lv_iand hx hb dX12_roundOf_50 ?_
        refine lv_topi (fun v_17 ev_17 => ?_)
        have q_18 : 0 ≤ v_17.toInt ∧ v_17.toInt ≤ 1 := by rw [ev_17]; exact ow_and1 _
        refine lv_if_ne (tgt := 58) hx hb dX12_roundOf_51 (by decide) (fun c_19 => ?_) (fun c_19 => ?_)
        · have q_20 : ¬ v_17.toInt = (0 : Int32).toInt := by have := (not_congr (ow_eq _ _)).mp c_19; omega
          refine lv_iconst (v := 0) hx hb dX12_roundOf_58 (by decide) ?_
          refine lv_iadd hx hb dX12_roundOf_59 ?_
          refine lv_topi (fun v_21 ev_21 => ?_)
          refine lv_istore_n (lv' := [(3, .int v_21), (4, .int x4_1), (0, .ref mo), (1, .int n), (2, .int n2)]) hx hb dX12_roundOf_60 rfl hl (by decide) rfl (fun ls hl => ?_)
          obtain ⟨v_22, ev_22⟩ : ∃ y : Int32, y = x4_1 + 1 := ⟨_, rfl⟩
          refine lv_iinc (v := v_22) (lv' := [(4, .int v_22), (3, .int v_21), (0, .ref mo), (1, .int n), (2, .int n2)]) hx hb dX12_roundOf_61 hl (k := 1) rfl (by rw [ev_22]; rfl) (by decide) rfl (fun ls hl => ?_)
          have q_23 : v_22.toInt = x4_1.toInt + 1 := by have := ow_add ev_22 (by omega) (by omega); omega
          refine lv_goto (tgt := 5) hx hb dX12_roundOf_64 (by decide) ?_
          refine W.widen (k := 0) (n := 0) (Nat.le_of_ble_eq_true rfl) (Nat.le_of_ble_eq_true rfl) ?_
          exact ih_1 v_22 v_21 _ _ _ (by omega) (by omega) (by omega) hP hS (lv_sub hl [0, 1, 2, 3, 4] rfl)
        · have q_24 : v_17.toInt = (0 : Int32).toInt := (ow_eq _ _).mp c_19
          refine lv_iconst (v := 1) hx hb dX12_roundOf_54 (by decide) ?_
          refine lv_goto (tgt := 59) hx hb dX12_roundOf_55 (by decide) ?_
          refine lv_iadd hx hb dX12_roundOf_59 ?_
          refine lv_topi (fun v_25 ev_25 => ?_)
          refine lv_istore_n (lv' := [(3, .int v_25), (4, .int x4_1), (0, .ref mo), (1, .int n), (2, .int n2)]) hx hb dX12_roundOf_60 rfl hl (by decide) rfl (fun ls hl => ?_)
          obtain ⟨v_26, ev_26⟩ : ∃ y : Int32, y = x4_1 + 1 := ⟨_, rfl⟩
          refine lv_iinc (v := v_26) (lv' := [(4, .int v_26), (3, .int v_25), (0, .ref mo), (1, .int n), (2, .int n2)]) hx hb dX12_roundOf_61 hl (k := 1) rfl (by rw [ev_26]; rfl) (by decide) rfl (fun ls hl => ?_)
          have q_27 : v_26.toInt = x4_1.toInt + 1 := by have := ow_add ev_26 (by omega) (by omega); omega
          refine lv_goto (tgt := 5) hx hb dX12_roundOf_64 (by decide) ?_
          refine W.widen (k := 0) (n := 0) (Nat.le_of_ble_eq_true rfl) (Nat.le_of_ble_eq_true rfl) ?_
          exact ih_1 v_26 v_25 _ _ _ (by omega) (by omega) (by omega) hP hS (lv_sub hl [0, 1, 2, 3, 4] rfl)
  exact lp_1 _ n2 (0) _ _ _ (by omega) (by omega) (Nat.lt_succ_self _) hP hS (lv_sub hl [0, 1, 2, 3, 4] rfl)
set_option maxHeartbeats 4000000 in
set_option maxRecDepth 100000 in
theorem m_round (l : Launch) (G : va_G) (cy : Nat → ClassId) (sz : Nat) (mo : Nat) (h : Nat → Nat) (T : Int) (v : Nat → Int32) (nm : Int64) (f : Nat → Nat → Int32) (g : Nat → Nat → Int64) (n : Int32) (n2 : Int32)  (hv : MIv T v) (hf : MIf f) (hR : RI v f) (hL : WL v f)  : Met l yX12_round (.code yX12_round cX12_round 3 (some .int) :: TBg) ({ frames := 4, cells := 0, slots := 0, locals := 256 }) (va_Pc [.ref mo, .int n, .int n2] (En G cy (WMs cy mo h v nm f g) sz)) (va_Qi (fun (r : Int32) (_ : Unit) => True) (fun _ _ => True) (va_A [] sz)) 0 0 (va_A [] sz) := by
  refine Met.ofW (cc := cX12_round) (maxL := 3) (ret := (some .int)) (by decide) rfl ?_
  intro p e s m args below meth c s₁ B hml hv9
  obtain ⟨rfl, hsz, hP, hK, hD0, hN⟩ := hv9
  have hx := B.exec
  have hb := B.bytes
  have hr := B.returns
  have hts := atoms_spec (ws := .code yX12_round cX12_round 3 (some .int) :: TBg) B.pre
  have ht : ∀ w ∈ TBg, w.before _ s = true := fun w h => hts w (List.mem_cons_of_mem _ h)
  have hown : s.vm.findClass RX12 = some m.cls := findClass_of_methodNamed B.named
  have hlocks := B.notSynchronized
  subst hsz
  generalize hAe : va_A [] s.heap.size = A at ⊢
  have hA : ∀ q : Nat, s.heap.size ≤ q → A q := fun q h => by rw [← hAe]; exact Or.inr h
  have hS : va_S A s.heap s.heap [] := va_S.rf
  have hl := lv_entry ([.ref mo, .int n, .int n2]) (n := 3) (Nat.le_of_ble_eq_true rfl)
  rw [lg_entry_eq]
  generalize (lg_sl ([.ref mo, .int n, .int n2]) ++ List.replicate (3 - (lg_sl ([.ref mo, .int n, .int n2])).length) Slot.unset).toArray = ls at hl ⊢
  have hl : lv_has ls 3 [(0, .ref mo), (1, .int n), (2, .int n2)] := hl
  have z0 : (-1 : Int32).toInt = -1 := by decide
  have z1 : (0 : Int32).toInt = 0 := by decide
  have z2 : (1 : Int32).toInt = 1 := by decide
  have z3 : (99 : Int32).toInt = 99 := by decide
  refine lv_aload_n hx hb dX12_round_0 rfl (lv_at hl 0 rfl) ?_
  refine lv_iload_n hx hb dX12_round_1 rfl (lv_at hl 1 rfl) ?_
  have hFc := fr_new hS hA
  refine va_calli (va_runV (As := [.int n]) (rest := []) ⟨hx, hb, hml, hown, ht⟩ (m_isTune l G cy _ mo h T v nm f g n  hv hf hR hL) (cwV 1 ht (gv k_90 k_91 k_92 k_61 k_89) rfl rfl rfl (by decide +kernel) ⟨Nat.le_of_ble_eq_true rfl, Nat.le_of_ble_eq_true rfl⟩) ⟨En.blind, va_recv hK hP (ci := 12) (q0 := 0) rfl rfl, fun U hU hW => ⟨rfl, En.of hU hW hP hK hD0 hN⟩⟩ rfl rfl hl.1 rfl (lv_room (Nat.le_of_ble_eq_true rfl)) dX12_round_2 ⟨Nat.le_of_ble_eq_true rfl, Nat.le_of_ble_eq_true rfl⟩) hS (fun q _ h => hFc q h) hFc (fun r_u_1 u_1 t9 H locs ht9 hvm hw hB hz1 hk1 hS => ?_)
  have hP := fr_keep hP hk1
  have wu_1 := hw
  clear hFc hk1 hz1 hB hw
  refine lv_if_eq (tgt := 31) hx hb dX12_round_5 (by decide) (fun c_2 => ?_) (fun c_2 => ?_)
  · have q_3 : r_u_1.toInt = (0 : Int32).toInt := (ow_eq _ _).mp c_2
    refine lv_iconst (v := (-1)) hx hb dX12_round_31 (by decide) ?_
    refine W.widen (k := 0) (n := 0) (Nat.le_of_ble_eq_true rfl) (Nat.le_of_ble_eq_true rfl) ?_
    exact W.iret (v := (-1)) hx hb hr (fun t ht9 hW => ⟨⟨(-1), (), rfl, trivial, trivial⟩, hS.F ht9⟩) hS.2.2 dX12_round_32
  · have q_4 : ¬ r_u_1.toInt = (0 : Int32).toInt := by have := (not_congr (ow_eq _ _)).mp c_2; omega
    refine lv_iload_n hx hb dX12_round_8 rfl (lv_at hl 2 rfl) ?_
    refine lv_iconst (v := 1) hx hb dX12_round_9 (by decide) ?_
    refine lv_bipush (v := 99) hx hb dX12_round_10 (by decide) ?_
    have hFc := fr_new hS hA
    refine va_calli (va_runS (As := [.int n2, .int 1, .int 99]) (rest := []) ⟨hx, hb, hml, hown, ht⟩ (m_isIn l G cy _  n2 (1) (99)  ) (va_cwS 3 ht (gs k_59 k_60 k_61 k_58) rfl rfl rfl (by decide +kernel) ⟨Nat.le_of_ble_eq_true rfl, Nat.le_of_ble_eq_true rfl⟩) ⟨En.blind, fun U hU hW => ⟨rfl, En.of hU hW (va_P0 (H := _)) hK va_D0 hN⟩⟩ rfl rfl hl.1 rfl (lv_room (Nat.le_of_ble_eq_true rfl)) dX12_round_12 ⟨Nat.le_of_ble_eq_true rfl, Nat.le_of_ble_eq_true rfl⟩) hS (fun q _ h => hFc q h) hFc (fun r_u_5 u_5 t9 H locs ht9 hvm hw hB hz1 hk1 hS => ?_)
    have hP := fr_keep hP hk1
    have wu_5 := hw
    clear hFc hk1 hz1 hB hw
    refine lv_if_eq (tgt := 31) hx hb dX12_round_15 (by decide) (fun c_6 => ?_) (fun c_6 => ?_)
    · have q_7 : r_u_5.toInt = (0 : Int32).toInt := (ow_eq _ _).mp c_6
      refine lv_iconst (v := (-1)) hx hb dX12_round_31 (by decide) ?_
      refine W.widen (k := 0) (n := 0) (Nat.le_of_ble_eq_true rfl) (Nat.le_of_ble_eq_true rfl) ?_
      exact W.iret (v := (-1)) hx hb hr (fun t ht9 hW => ⟨⟨(-1), (), rfl, trivial, trivial⟩, hS.F ht9⟩) hS.2.2 dX12_round_32
    · have q_8 : ¬ r_u_5.toInt = (0 : Int32).toInt := by have := (not_congr (ow_eq _ _)).mp c_6; omega
      refine lv_aload_n hx hb dX12_round_18 rfl (lv_at hl 0 rfl) ?_
      refine lv_aload_n hx hb dX12_round_19 rfl (lv_at hl 0 rfl) ?_
      refine lv_iload_n hx hb dX12_round_20 rfl (lv_at hl 1 rfl) ?_
      have hFc := fr_new hS hA
      refine va_calli (va_runV (As := [.int n]) (rest := [.ref mo]) ⟨hx, hb, hml, hown, ht⟩ (m_songOf l G cy _ mo h T v nm f g n  hv hf hR hL (by omega)) (cwV 1 ht (gv k_94 k_95 k_96 k_61 k_93) rfl rfl rfl (by decide +kernel) ⟨Nat.le_of_ble_eq_true rfl, Nat.le_of_ble_eq_true rfl⟩) ⟨En.blind, va_recv hK hP (ci := 12) (q0 := 0) rfl rfl, fun U hU hW => ⟨rfl, En.of hU hW hP hK hD0 hN⟩⟩ rfl rfl hl.1 rfl (lv_room (Nat.le_of_ble_eq_true rfl)) dX12_round_21 ⟨Nat.le_of_ble_eq_true rfl, Nat.le_of_ble_eq_true rfl⟩) hS (fun q _ h => hFc q h) hFc (fun r_u_9 u_9 t9 H locs ht9 hvm hw hB hz1 hk1 hS => ?_)
      have hP := fr_keep hP hk1
      have wu_9 := hw
      clear hFc hk1 hz1 hB hw
      refine lv_iload_n hx hb dX12_round_24 rfl (lv_at hl 2 rfl) ?_
      have hFc := fr_new hS hA
      refine va_calli (va_runV (As := [.int r_u_9, .int n2]) (rest := []) ⟨hx, hb, hml, hown, ht⟩ (m_roundOf l G cy _ mo h T v nm f g r_u_9 n2  hv hf hR hL (by omega) (by omega)) (cwV 2 ht (gv k_188 k_189 k_190 k_61 k_187) rfl rfl rfl (by decide +kernel) ⟨Nat.le_of_ble_eq_true rfl, Nat.le_of_ble_eq_true rfl⟩) ⟨En.blind, va_recv hK hP (ci := 12) (q0 := 0) rfl rfl, fun U hU hW => ⟨rfl, En.of hU hW hP hK hD0 hN⟩⟩ rfl rfl hl.1 rfl (lv_room (Nat.le_of_ble_eq_true rfl)) dX12_round_25 ⟨Nat.le_of_ble_eq_true rfl, Nat.le_of_ble_eq_true rfl⟩) hS (fun q _ h => hFc q h) hFc (fun r_u_10 u_10 t9 H locs ht9 hvm hw hB hz1 hk1 hS => ?_)
      have hP := fr_keep hP hk1
      have wu_10 := hw
      clear hFc hk1 hz1 hB hw
      refine lv_goto (tgt := 32) hx hb dX12_round_28 (by decide) ?_
      refine W.widen (k := 0) (n := 0) (Nat.le_of_ble_eq_true rfl) (Nat.le_of_ble_eq_true rfl) ?_
      exact W.iret (v := r_u_10) hx hb hr (fun t ht9 hW => ⟨⟨r_u_10, (), rfl, trivial, trivial⟩, hS.F ht9⟩) hS.2.2 dX12_round_32
set_option maxHeartbeats 4000000 in
set_option maxRecDepth 100000 in
theorem m_good (l : Launch) (G : va_G) (cy : Nat → ClassId) (sz : Nat) (mo : Nat) (h : Nat → Nat) (T : Int) (v : Nat → Int32) (nm : Int64) (f : Nat → Nat → Int32) (g : Nat → Nat → Int64) (n : Int32) (n2 : Int32)  (hv : MIv T v) (hf : MIf f) (hR : RI v f) (hL : WL v f)  : Met l yX12_good (.code yX12_good cX12_good 5 (some .int) :: TBg) ({ frames := 4, cells := 0, slots := 0, locals := 256 }) (va_Pc [.ref mo, .int n, .int n2] (En G cy (WMs cy mo h v nm f g) sz)) (va_Qi (fun (r : Int32) (_ : Unit) => True) (fun _ _ => True) (va_A [] sz)) 0 0 (va_A [] sz) := by
  refine Met.ofW (cc := cX12_good) (maxL := 5) (ret := (some .int)) (by decide) rfl ?_
  intro p e s m args below meth c s₁ B hml hv9
  obtain ⟨rfl, hsz, hP, hK, hD0, hN⟩ := hv9
  have hx := B.exec
  have hb := B.bytes
  have hr := B.returns
  have hts := atoms_spec (ws := .code yX12_good cX12_good 5 (some .int) :: TBg) B.pre
  have ht : ∀ w ∈ TBg, w.before _ s = true := fun w h => hts w (List.mem_cons_of_mem _ h)
  have hown : s.vm.findClass RX12 = some m.cls := findClass_of_methodNamed B.named
  have hlocks := B.notSynchronized
  subst hsz
  generalize hAe : va_A [] s.heap.size = A at ⊢
  have hA : ∀ q : Nat, s.heap.size ≤ q → A q := fun q h => by rw [← hAe]; exact Or.inr h
  have hS : va_S A s.heap s.heap [] := va_S.rf
  have hl := lv_entry ([.ref mo, .int n, .int n2]) (n := 5) (Nat.le_of_ble_eq_true rfl)
  rw [lg_entry_eq]
  generalize (lg_sl ([.ref mo, .int n, .int n2]) ++ List.replicate (5 - (lg_sl ([.ref mo, .int n, .int n2])).length) Slot.unset).toArray = ls at hl ⊢
  have hl : lv_has ls 5 [(0, .ref mo), (1, .int n), (2, .int n2)] := hl
  have z0 : (-1 : Int32).toInt = -1 := by decide
  have z1 : (0 : Int32).toInt = 0 := by decide
  have z2 : (1 : Int32).toInt = 1 := by decide
  have z3 : (99 : Int32).toInt = 99 := by decide
  refine lv_aload_n hx hb dX12_good_0 rfl (lv_at hl 0 rfl) ?_
  refine lv_iload_n hx hb dX12_good_1 rfl (lv_at hl 1 rfl) ?_
  have hFc := fr_new hS hA
  refine va_calli (va_runV (As := [.int n]) (rest := []) ⟨hx, hb, hml, hown, ht⟩ (m_isTune l G cy _ mo h T v nm f g n  hv hf hR hL) (cwV 1 ht (gv k_90 k_91 k_92 k_61 k_89) rfl rfl rfl (by decide +kernel) ⟨Nat.le_of_ble_eq_true rfl, Nat.le_of_ble_eq_true rfl⟩) ⟨En.blind, va_recv hK hP (ci := 12) (q0 := 0) rfl rfl, fun U hU hW => ⟨rfl, En.of hU hW hP hK hD0 hN⟩⟩ rfl rfl hl.1 rfl (lv_room (Nat.le_of_ble_eq_true rfl)) dX12_good_2 ⟨Nat.le_of_ble_eq_true rfl, Nat.le_of_ble_eq_true rfl⟩) hS (fun q _ h => hFc q h) hFc (fun r_u_1 u_1 t9 H locs ht9 hvm hw hB hz1 hk1 hS => ?_)
  have hP := fr_keep hP hk1
  have wu_1 := hw
  clear hFc hk1 hz1 hB hw
  refine lv_if_eq (tgt := 17) hx hb dX12_good_5 (by decide) (fun c_2 => ?_) (fun c_2 => ?_)
  · have q_3 : r_u_1.toInt = (0 : Int32).toInt := (ow_eq _ _).mp c_2
    refine lv_iconst (v := (-1)) hx hb dX12_good_17 (by decide) ?_
    refine W.widen (k := 0) (n := 0) (Nat.le_of_ble_eq_true rfl) (Nat.le_of_ble_eq_true rfl) ?_
    exact W.iret (v := (-1)) hx hb hr (fun t ht9 hW => ⟨⟨(-1), (), rfl, trivial, trivial⟩, hS.F ht9⟩) hS.2.2 dX12_good_18
  · have q_4 : ¬ r_u_1.toInt = (0 : Int32).toInt := by have := (not_congr (ow_eq _ _)).mp c_2; omega
    refine lv_iload_n hx hb dX12_good_8 rfl (lv_at hl 2 rfl) ?_
    refine lv_iconst (v := 0) hx hb dX12_good_9 (by decide) ?_
    refine lv_iconst (v := 1) hx hb dX12_good_10 (by decide) ?_
    have hFc := fr_new hS hA
    refine va_calli (va_runS (As := [.int n2, .int 0, .int 1]) (rest := []) ⟨hx, hb, hml, hown, ht⟩ (m_isIn l G cy _  n2 (0) (1)  ) (va_cwS 3 ht (gs k_59 k_60 k_61 k_58) rfl rfl rfl (by decide +kernel) ⟨Nat.le_of_ble_eq_true rfl, Nat.le_of_ble_eq_true rfl⟩) ⟨En.blind, fun U hU hW => ⟨rfl, En.of hU hW (va_P0 (H := _)) hK va_D0 hN⟩⟩ rfl rfl hl.1 rfl (lv_room (Nat.le_of_ble_eq_true rfl)) dX12_good_11 ⟨Nat.le_of_ble_eq_true rfl, Nat.le_of_ble_eq_true rfl⟩) hS (fun q _ h => hFc q h) hFc (fun r_u_5 u_5 t9 H locs ht9 hvm hw hB hz1 hk1 hS => ?_)
    have hP := fr_keep hP hk1
    have wu_5 := hw
    clear hFc hk1 hz1 hB hw
    refine lv_if_ne (tgt := 19) hx hb dX12_good_14 (by decide) (fun c_6 => ?_) (fun c_6 => ?_)
    · have q_7 : ¬ r_u_5.toInt = (0 : Int32).toInt := by have := (not_congr (ow_eq _ _)).mp c_6; omega
      refine lv_iconst (v := (-1)) hx hb dX12_good_19 (by decide) ?_
      refine lv_istore_n (lv' := [(3, .int (-1)), (0, .ref mo), (1, .int n), (2, .int n2)]) hx hb dX12_good_20 rfl hl (by decide) rfl (fun ls hl => ?_)
      refine lv_iconst (v := 1) hx hb dX12_good_21 (by decide) ?_
      refine lv_istore (lv' := [(4, .int 1), (3, .int (-1)), (0, .ref mo), (1, .int n), (2, .int n2)]) hx hb dX12_good_22 hl (by decide) rfl (fun ls hl => ?_)
      refine W.widen (k := 0) (n := 0) (Nat.le_of_ble_eq_true rfl) (Nat.le_of_ble_eq_true rfl) ?_
      have lp_8 : ∀ (N_8 : Nat) (x4_8 : Int32) (x3_8 : Int32) (H : Heap) (locs : List Loc) (ls : Array Slot), (1 ≤ x4_8.toInt ∧ x4_8.toInt ≤ 100) → (-1 ≤ x3_8.toInt ∧ x3_8.toInt ≤ 99) → (x3_8.toInt = -1 ∨ 1 ≤ x3_8.toInt) → (100 - x4_8.toInt).toNat < N_8 → va_P G vwCl (WMs cy mo h v nm f g) H → va_S A s.heap H locs → lv_has ls 5 [(4, .int x4_8), (3, .int x3_8), (0, .ref mo), (1, .int n), (2, .int n2)] → W p l e (headSpec (.code yX12_good cX12_good 5 (some .int) :: TBg) ({ frames := 4, cells := 0, slots := 0, locals := 256 })).room s m ([.ref mo, .int n, .int n2] : List Value).toArray below meth c H locs 0 0 (MQ below (va_Qi (fun (r : Int32) (_ : Unit) => True) (fun _ _ => True) A) ([.ref mo, .int n, .int n2] : List Value).toArray s 0 0 A) (F0 m 24 ls []) := by
        intro N_8
        induction N_8 with
        | zero => intro x4_8 x3_8 H locs ls qf8_0 qf8_1 qf8_2 hm hP hS hl; exact absurd hm (Nat.not_lt_zero _)
        | succ N_8 ih_8 =>
          intro x4_8 x3_8 H locs ls qf8_0 qf8_1 qf8_2 hm hP hS hl
          refine lv_iload hx hb dX12_good_24 (lv_at hl 0 rfl) ?_
          refine lv_bipush (v := 99) hx hb dX12_good_26 (by decide) ?_
          refine lv_icmp_gt (tgt := 82) hx hb dX12_good_28 (by decide) (fun c_9 => ?_) (fun c_9 => ?_)
          · have q_10 : (99 : Int32).toInt < x4_8.toInt := (ow_lt _ _).mp c_9
            refine lv_iload_n hx hb dX12_good_82 rfl (lv_at hl 1 rfl) ?_
            refine lv_if_ge (tgt := 90) hx hb dX12_good_83 (by decide) (fun c_11 => ?_) (fun c_11 => ?_)
            · have q_12 : (0 : Int32).toInt ≤ x3_8.toInt := (ow_le _ _).mp c_11
              refine lv_iload_n hx hb dX12_good_90 rfl (lv_at hl 4 rfl) ?_
              refine lv_if_ne (tgt := 98) hx hb dX12_good_91 (by decide) (fun c_13 => ?_) (fun c_13 => ?_)
              · have q_14 : ¬ n2.toInt = (0 : Int32).toInt := by have := (not_congr (ow_eq _ _)).mp c_13; omega
                refine lv_aload_n hx hb dX12_good_98 rfl (lv_at hl 2 rfl) ?_
                refine lv_aload_n hx hb dX12_good_99 rfl (lv_at hl 2 rfl) ?_
                refine lv_iload_n hx hb dX12_good_100 rfl (lv_at hl 3 rfl) ?_
                have hFc := fr_new hS hA
                refine va_calli (va_runV (As := [.int n]) (rest := [.ref mo]) ⟨hx, hb, hml, hown, ht⟩ (m_songOf l G cy _ mo h T v nm f g n  hv hf hR hL (by omega)) (cwV 1 ht (gv k_94 k_95 k_96 k_61 k_93) rfl rfl rfl (by decide +kernel) ⟨Nat.le_of_ble_eq_true rfl, Nat.le_of_ble_eq_true rfl⟩) ⟨En.blind, va_recv hK hP (ci := 12) (q0 := 0) rfl rfl, fun U hU hW => ⟨rfl, En.of hU hW hP hK hD0 hN⟩⟩ rfl rfl hl.1 rfl (lv_room (Nat.le_of_ble_eq_true rfl)) dX12_good_101 ⟨Nat.le_of_ble_eq_true rfl, Nat.le_of_ble_eq_true rfl⟩) hS (fun q _ h => hFc q h) hFc (fun r_u_15 u_15 t9 H locs ht9 hvm hw hB hz1 hk1 hS => ?_)
                have hP := fr_keep hP hk1
                have wu_15 := hw
                clear hFc hk1 hz1 hB hw
                refine lv_iload_n hx hb dX12_good_104 rfl (lv_at hl 1 rfl) ?_
                have hFc := fr_new hS hA
                refine va_calli (va_runV (As := [.int r_u_15, .int x3_8]) (rest := []) ⟨hx, hb, hml, hown, ht⟩ (m_roundOf l G cy _ mo h T v nm f g r_u_15 x3_8  hv hf hR hL (by omega) (by omega)) (cwV 2 ht (gv k_188 k_189 k_190 k_61 k_187) rfl rfl rfl (by decide +kernel) ⟨Nat.le_of_ble_eq_true rfl, Nat.le_of_ble_eq_true rfl⟩) ⟨En.blind, va_recv hK hP (ci := 12) (q0 := 0) rfl rfl, fun U hU hW => ⟨rfl, En.of hU hW hP hK hD0 hN⟩⟩ rfl rfl hl.1 rfl (lv_room (Nat.le_of_ble_eq_true rfl)) dX12_good_105 ⟨Nat.le_of_ble_eq_true rfl, Nat.le_of_ble_eq_true rfl⟩) hS (fun q _ h => hFc q h) hFc (fun r_u_16 u_16 t9 H locs ht9 hvm hw hB hz1 hk1 hS => ?_)
                have hP := fr_keep hP hk1
                have wu_16 := hw
                clear hFc hk1 hz1 hB hw
                refine W.widen (k := 0) (n := 0) (Nat.le_of_ble_eq_true rfl) (Nat.le_of_ble_eq_true rfl) ?_
                exact W.iret (v := r_u_16) hx hb hr (fun t ht9 hW => ⟨⟨r_u_16, (), rfl, trivial, trivial⟩, hS.F ht9⟩) hS.2.2 dX12_good_108
              · have q_17 : n2.toInt = (0 : Int32).toInt := (ow_eq _ _).mp c_13
                refine lv_iload_n hx hb dX12_good_94 rfl (lv_at hl 1 rfl) ?_
                refine lv_goto (tgt := 108) hx hb dX12_good_95 (by decide) ?_
                refine W.widen (k := 0) (n := 0) (Nat.le_of_ble_eq_true rfl) (Nat.le_of_ble_eq_true rfl) ?_
                exact W.iret (v := x3_8) hx hb hr (fun t ht9 hW => ⟨⟨x3_8, (), rfl, trivial, trivial⟩, hS.F ht9⟩) hS.2.2 dX12_good_108
            · have q_18 : x3_8.toInt < (0 : Int32).toInt := by have := (not_congr (ow_le _ _)).mp c_11; omega
              refine lv_iconst (v := (-1)) hx hb dX12_good_86 (by decide) ?_
              refine lv_goto (tgt := 108) hx hb dX12_good_87 (by decide) ?_
              refine W.widen (k := 0) (n := 0) (Nat.le_of_ble_eq_true rfl) (Nat.le_of_ble_eq_true rfl) ?_
              exact W.iret (v := (-1)) hx hb hr (fun t ht9 hW => ⟨⟨(-1), (), rfl, trivial, trivial⟩, hS.F ht9⟩) hS.2.2 dX12_good_108
          · have q_19 : x4_8.toInt ≤ (99 : Int32).toInt := by have := (not_congr (ow_lt _ _)).mp c_9; omega
            refine lv_iload hx hb dX12_good_31 (lv_at hl 0 rfl) ?_
            refine lv_aload_n hx hb dX12_good_33 rfl (lv_at hl 2 rfl) ?_
            refine lv_aload_n hx hb dX12_good_34 rfl (lv_at hl 2 rfl) ?_
            refine lv_iload_n hx hb dX12_good_35 rfl (lv_at hl 3 rfl) ?_
            have hFc := fr_new hS hA
            refine va_calli (va_runV (As := [.int n]) (rest := [.ref mo, .int x4_8]) ⟨hx, hb, hml, hown, ht⟩ (m_songOf l G cy _ mo h T v nm f g n  hv hf hR hL (by omega)) (cwV 1 ht (gv k_94 k_95 k_96 k_61 k_93) rfl rfl rfl (by decide +kernel) ⟨Nat.le_of_ble_eq_true rfl, Nat.le_of_ble_eq_true rfl⟩) ⟨En.blind, va_recv hK hP (ci := 12) (q0 := 0) rfl rfl, fun U hU hW => ⟨rfl, En.of hU hW hP hK hD0 hN⟩⟩ rfl rfl hl.1 rfl (lv_room (Nat.le_of_ble_eq_true rfl)) dX12_good_36 ⟨Nat.le_of_ble_eq_true rfl, Nat.le_of_ble_eq_true rfl⟩) hS (fun q _ h => hFc q h) hFc (fun r_u_20 u_20 t9 H locs ht9 hvm hw hB hz1 hk1 hS => ?_)
            have hP := fr_keep hP hk1
            have wu_20 := hw
            clear hFc hk1 hz1 hB hw
            have hFc := fr_new hS hA
            refine va_calli (va_runV (As := [.int r_u_20]) (rest := [.int x4_8]) ⟨hx, hb, hml, hown, ht⟩ (m_lengthOf l G cy _ mo h T v nm f g r_u_20  hv hf hR hL (by omega)) (cwV 1 ht (gv k_180 k_181 k_182 k_61 k_179) rfl rfl rfl (by decide +kernel) ⟨Nat.le_of_ble_eq_true rfl, Nat.le_of_ble_eq_true rfl⟩) ⟨En.blind, va_recv hK hP (ci := 12) (q0 := 0) rfl rfl, fun U hU hW => ⟨rfl, En.of hU hW hP hK hD0 hN⟩⟩ rfl rfl hl.1 rfl (lv_room (Nat.le_of_ble_eq_true rfl)) dX12_good_39 ⟨Nat.le_of_ble_eq_true rfl, Nat.le_of_ble_eq_true rfl⟩) hS (fun q _ h => hFc q h) hFc (fun r_u_21 u_21 t9 H locs ht9 hvm hw hB hz1 hk1 hS => ?_)
            have hP := fr_keep hP hk1
            have wu_21 := hw
            clear hFc hk1 hz1 hB hw
            refine lv_icmp_ge (tgt := 82) hx hb dX12_good_42 (by decide) (fun c_22 => ?_) (fun c_22 => ?_)
            · have q_23 : r_u_21.toInt ≤ x4_8.toInt := (ow_le _ _).mp c_22
              refine lv_iload_n hx hb dX12_good_82 rfl (lv_at hl 1 rfl) ?_
              refine lv_if_ge (tgt := 90) hx hb dX12_good_83 (by decide) (fun c_24 => ?_) (fun c_24 => ?_)
              · have q_25 : (0 : Int32).toInt ≤ x3_8.toInt := (ow_le _ _).mp c_24
                refine lv_iload_n hx hb dX12_good_90 rfl (lv_at hl 4 rfl) ?_
                refine lv_if_ne (tgt := 98) hx hb dX12_good_91 (by decide) (fun c_26 => ?_) (fun c_26 => ?_)
                · have q_27 : ¬ n2.toInt = (0 : Int32).toInt := by have := (not_congr (ow_eq _ _)).mp c_26; omega
                  refine lv_aload_n hx hb dX12_good_98 rfl (lv_at hl 2 rfl) ?_
                  refine lv_aload_n hx hb dX12_good_99 rfl (lv_at hl 2 rfl) ?_
                  refine lv_iload_n hx hb dX12_good_100 rfl (lv_at hl 3 rfl) ?_
                  have hFc := fr_new hS hA
                  refine va_calli (va_runV (As := [.int n]) (rest := [.ref mo]) ⟨hx, hb, hml, hown, ht⟩ (m_songOf l G cy _ mo h T v nm f g n  hv hf hR hL (by omega)) (cwV 1 ht (gv k_94 k_95 k_96 k_61 k_93) rfl rfl rfl (by decide +kernel) ⟨Nat.le_of_ble_eq_true rfl, Nat.le_of_ble_eq_true rfl⟩) ⟨En.blind, va_recv hK hP (ci := 12) (q0 := 0) rfl rfl, fun U hU hW => ⟨rfl, En.of hU hW hP hK hD0 hN⟩⟩ rfl rfl hl.1 rfl (lv_room (Nat.le_of_ble_eq_true rfl)) dX12_good_101 ⟨Nat.le_of_ble_eq_true rfl, Nat.le_of_ble_eq_true rfl⟩) hS (fun q _ h => hFc q h) hFc (fun r_u_28 u_28 t9 H locs ht9 hvm hw hB hz1 hk1 hS => ?_)
                  have hP := fr_keep hP hk1
                  have wu_28 := hw
                  clear hFc hk1 hz1 hB hw
                  refine lv_iload_n hx hb dX12_good_104 rfl (lv_at hl 1 rfl) ?_
                  have hFc := fr_new hS hA
                  refine va_calli (va_runV (As := [.int r_u_28, .int x3_8]) (rest := []) ⟨hx, hb, hml, hown, ht⟩ (m_roundOf l G cy _ mo h T v nm f g r_u_28 x3_8  hv hf hR hL (by omega) (by omega)) (cwV 2 ht (gv k_188 k_189 k_190 k_61 k_187) rfl rfl rfl (by decide +kernel) ⟨Nat.le_of_ble_eq_true rfl, Nat.le_of_ble_eq_true rfl⟩) ⟨En.blind, va_recv hK hP (ci := 12) (q0 := 0) rfl rfl, fun U hU hW => ⟨rfl, En.of hU hW hP hK hD0 hN⟩⟩ rfl rfl hl.1 rfl (lv_room (Nat.le_of_ble_eq_true rfl)) dX12_good_105 ⟨Nat.le_of_ble_eq_true rfl, Nat.le_of_ble_eq_true rfl⟩) hS (fun q _ h => hFc q h) hFc (fun r_u_29 u_29 t9 H locs ht9 hvm hw hB hz1 hk1 hS => ?_)
                  have hP := fr_keep hP hk1
                  have wu_29 := hw
                  clear hFc hk1 hz1 hB hw
                  refine W.widen (k := 0) (n := 0) (Nat.le_of_ble_eq_true rfl) (Nat.le_of_ble_eq_true rfl) ?_
                  exact W.iret (v := r_u_29) hx hb hr (fun t ht9 hW => ⟨⟨r_u_29, (), rfl, trivial, trivial⟩, hS.F ht9⟩) hS.2.2 dX12_good_108
                · have q_30 : n2.toInt = (0 : Int32).toInt := (ow_eq _ _).mp c_26
                  refine lv_iload_n hx hb dX12_good_94 rfl (lv_at hl 1 rfl) ?_
                  refine lv_goto (tgt := 108) hx hb dX12_good_95 (by decide) ?_
                  refine W.widen (k := 0) (n := 0) (Nat.le_of_ble_eq_true rfl) (Nat.le_of_ble_eq_true rfl) ?_
                  exact W.iret (v := x3_8) hx hb hr (fun t ht9 hW => ⟨⟨x3_8, (), rfl, trivial, trivial⟩, hS.F ht9⟩) hS.2.2 dX12_good_108
              · have q_31 : x3_8.toInt < (0 : Int32).toInt := by have := (not_congr (ow_le _ _)).mp c_24; omega
                refine lv_iconst (v := (-1)) hx hb dX12_good_86 (by decide) ?_
                refine lv_goto (tgt := 108) hx hb dX12_good_87 (by decide) ?_
                refine W.widen (k := 0) (n := 0) (Nat.le_of_ble_eq_true rfl) (Nat.le_of_ble_eq_true rfl) ?_
                exact W.iret (v := (-1)) hx hb hr (fun t ht9 hW => ⟨⟨(-1), (), rfl, trivial, trivial⟩, hS.F ht9⟩) hS.2.2 dX12_good_108
            · have q_32 : x4_8.toInt < r_u_21.toInt := by have := (not_congr (ow_le _ _)).mp c_22; omega
              refine lv_iload_n hx hb dX12_good_45 rfl (lv_at hl 1 rfl) ?_
              refine lv_if_lt (tgt := 73) hx hb dX12_good_46 (by decide) (fun c_33 => ?_) (fun c_33 => ?_)
              · have q_34 : x3_8.toInt < (0 : Int32).toInt := (ow_lt _ _).mp c_33
                refine lv_iload hx hb dX12_good_73 (lv_at hl 0 rfl) ?_
                refine lv_istore_n (lv' := [(3, .int x4_8), (4, .int x4_8), (0, .ref mo), (1, .int n), (2, .int n2)]) hx hb dX12_good_75 rfl hl (by decide) rfl (fun ls hl => ?_)
                obtain ⟨v_35, ev_35⟩ : ∃ y : Int32, y = x4_8 + 1 := ⟨_, rfl⟩
                refine lv_iinc (v := v_35) (lv' := [(4, .int v_35), (3, .int x4_8), (0, .ref mo), (1, .int n), (2, .int n2)]) hx hb dX12_good_76 hl (k := 1) rfl (by rw [ev_35]; rfl) (by decide) rfl (fun ls hl => ?_)
                have q_36 : v_35.toInt = x4_8.toInt + 1 := by have := ow_add ev_35 (by omega) (by omega); omega
                refine lv_goto (tgt := 24) hx hb dX12_good_79 (by decide) ?_
                refine W.widen (k := 0) (n := 0) (Nat.le_of_ble_eq_true rfl) (Nat.le_of_ble_eq_true rfl) ?_
                exact ih_8 v_35 x4_8 _ _ _ (by omega) (by omega) (by omega) (by omega) hP hS (lv_sub hl [0, 1, 2, 3, 4] rfl)
              · have q_37 : (0 : Int32).toInt ≤ x3_8.toInt := by have := (not_congr (ow_lt _ _)).mp c_33; omega
                refine lv_aload_n hx hb dX12_good_49 rfl (lv_at hl 2 rfl) ?_
                refine lv_aload_n hx hb dX12_good_50 rfl (lv_at hl 2 rfl) ?_
                refine lv_iload_n hx hb dX12_good_51 rfl (lv_at hl 3 rfl) ?_
                have hFc := fr_new hS hA
                refine va_calli (va_runV (As := [.int n]) (rest := [.ref mo]) ⟨hx, hb, hml, hown, ht⟩ (m_songOf l G cy _ mo h T v nm f g n  hv hf hR hL (by omega)) (cwV 1 ht (gv k_94 k_95 k_96 k_61 k_93) rfl rfl rfl (by decide +kernel) ⟨Nat.le_of_ble_eq_true rfl, Nat.le_of_ble_eq_true rfl⟩) ⟨En.blind, va_recv hK hP (ci := 12) (q0 := 0) rfl rfl, fun U hU hW => ⟨rfl, En.of hU hW hP hK hD0 hN⟩⟩ rfl rfl hl.1 rfl (lv_room (Nat.le_of_ble_eq_true rfl)) dX12_good_52 ⟨Nat.le_of_ble_eq_true rfl, Nat.le_of_ble_eq_true rfl⟩) hS (fun q _ h => hFc q h) hFc (fun r_u_38 u_38 t9 H locs ht9 hvm hw hB hz1 hk1 hS => ?_)
                have hP := fr_keep hP hk1
                have wu_38 := hw
                clear hFc hk1 hz1 hB hw
                refine lv_iload hx hb dX12_good_55 (lv_at hl 0 rfl) ?_
                have hFc := fr_new hS hA
                refine va_calli (va_runV (As := [.int r_u_38, .int x4_8]) (rest := []) ⟨hx, hb, hml, hown, ht⟩ (m_roundOf l G cy _ mo h T v nm f g r_u_38 x4_8  hv hf hR hL (by omega) (by omega)) (cwV 2 ht (gv k_188 k_189 k_190 k_61 k_187) rfl rfl rfl (by decide +kernel) ⟨Nat.le_of_ble_eq_true rfl, Nat.le_of_ble_eq_true rfl⟩) ⟨En.blind, va_recv hK hP (ci := 12) (q0 := 0) rfl rfl, fun U hU hW => ⟨rfl, En.of hU hW hP hK hD0 hN⟩⟩ rfl rfl hl.1 rfl (lv_room (Nat.le_of_ble_eq_true rfl)) dX12_good_57 ⟨Nat.le_of_ble_eq_true rfl, Nat.le_of_ble_eq_true rfl⟩) hS (fun q _ h => hFc q h) hFc (fun r_u_39 u_39 t9 H locs ht9 hvm hw hB hz1 hk1 hS => ?_)
                have hP := fr_keep hP hk1
                have wu_39 := hw
                clear hFc hk1 hz1 hB hw
                refine lv_aload_n hx hb dX12_good_60 rfl (lv_at hl 2 rfl) ?_
                refine lv_aload_n hx hb dX12_good_61 rfl (lv_at hl 2 rfl) ?_
                refine lv_iload_n hx hb dX12_good_62 rfl (lv_at hl 3 rfl) ?_
                have hFc := fr_new hS hA
                refine va_calli (va_runV (As := [.int n]) (rest := [.ref mo, .int r_u_39]) ⟨hx, hb, hml, hown, ht⟩ (m_songOf l G cy _ mo h T v nm f g n  hv hf hR hL (by omega)) (cwV 1 ht (gv k_94 k_95 k_96 k_61 k_93) rfl rfl rfl (by decide +kernel) ⟨Nat.le_of_ble_eq_true rfl, Nat.le_of_ble_eq_true rfl⟩) ⟨En.blind, va_recv hK hP (ci := 12) (q0 := 0) rfl rfl, fun U hU hW => ⟨rfl, En.of hU hW hP hK hD0 hN⟩⟩ rfl rfl hl.1 rfl (lv_room (Nat.le_of_ble_eq_true rfl)) dX12_good_63 ⟨Nat.le_of_ble_eq_true rfl, Nat.le_of_ble_eq_true rfl⟩) hS (fun q _ h => hFc q h) hFc (fun r_u_40 u_40 t9 H locs ht9 hvm hw hB hz1 hk1 hS => ?_)
                have hP := fr_keep hP hk1
                have wu_40 := hw
                clear hFc hk1 hz1 hB hw
                refine lv_iload_n hx hb dX12_good_66 rfl (lv_at hl 1 rfl) ?_
                have hFc := fr_new hS hA
                refine va_calli (va_runV (As := [.int r_u_40, .int x3_8]) (rest := [.int r_u_39]) ⟨hx, hb, hml, hown, ht⟩ (m_roundOf l G cy _ mo h T v nm f g r_u_40 x3_8  hv hf hR hL (by omega) (by omega)) (cwV 2 ht (gv k_188 k_189 k_190 k_61 k_187) rfl rfl rfl (by decide +kernel) ⟨Nat.le_of_ble_eq_true rfl, Nat.le_of_ble_eq_true rfl⟩) ⟨En.blind, va_recv hK hP (ci := 12) (q0 := 0) rfl rfl, fun U hU hW => ⟨rfl, En.of hU hW hP hK hD0 hN⟩⟩ rfl rfl hl.1 rfl (lv_room (Nat.le_of_ble_eq_true rfl)) dX12_good_67 ⟨Nat.le_of_ble_eq_true rfl, Nat.le_of_ble_eq_true rfl⟩) hS (fun q _ h => hFc q h) hFc (fun r_u_41 u_41 t9 H locs ht9 hvm hw hB hz1 hk1 hS => ?_)
                have hP := fr_keep hP hk1
                have wu_41 := hw
                clear hFc hk1 hz1 hB hw
                refine lv_icmp_ge (tgt := 76) hx hb dX12_good_70 (by decide) (fun c_42 => ?_) (fun c_42 => ?_)
                · have q_43 : r_u_41.toInt ≤ r_u_39.toInt := (ow_le _ _).mp c_42
                  obtain ⟨v_44, ev_44⟩ : ∃ y : Int32, y = x4_8 + 1 := ⟨_, rfl⟩
                  refine lv_iinc (v := v_44) (lv' := [(4, .int v_44), (3, .int x3_8), (0, .ref mo), (1, .int n), (2, .int n2)]) hx hb dX12_good_76 hl (k := 0) rfl (by rw [ev_44]; rfl) (by decide) rfl (fun ls hl => ?_)
                  have q_45 : v_44.toInt = x4_8.toInt + 1 := by have := ow_add ev_44 (by omega) (by omega); omega
                  refine lv_goto (tgt := 24) hx hb dX12_good_79 (by decide) ?_
                  refine W.widen (k := 0) (n := 0) (Nat.le_of_ble_eq_true rfl) (Nat.le_of_ble_eq_true rfl) ?_
                  exact ih_8 v_44 x3_8 _ _ _ (by omega) (by omega) (by omega) (by omega) hP hS (lv_sub hl [0, 1, 2, 3, 4] rfl)
                · have q_46 : r_u_39.toInt < r_u_41.toInt := by have := (not_congr (ow_le _ _)).mp c_42; omega
                  refine lv_iload hx hb dX12_good_73 (lv_at hl 0 rfl) ?_
                  refine lv_istore_n (lv' := [(3, .int x4_8), (4, .int x4_8), (0, .ref mo), (1, .int n), (2, .int n2)]) hx hb dX12_good_75 rfl hl (by decide) rfl (fun ls hl => ?_)
                  obtain ⟨v_47, ev_47⟩ : ∃ y : Int32, y = x4_8 + 1 := ⟨_, rfl⟩
                  refine lv_iinc (v := v_47) (lv' := [(4, .int v_47), (3, .int x4_8), (0, .ref mo), (1, .int n), (2, .int n2)]) hx hb dX12_good_76 hl (k := 1) rfl (by rw [ev_47]; rfl) (by decide) rfl (fun ls hl => ?_)
                  have q_48 : v_47.toInt = x4_8.toInt + 1 := by have := ow_add ev_47 (by omega) (by omega); omega
                  refine lv_goto (tgt := 24) hx hb dX12_good_79 (by decide) ?_
                  refine W.widen (k := 0) (n := 0) (Nat.le_of_ble_eq_true rfl) (Nat.le_of_ble_eq_true rfl) ?_
                  exact ih_8 v_47 x4_8 _ _ _ (by omega) (by omega) (by omega) (by omega) hP hS (lv_sub hl [0, 1, 2, 3, 4] rfl)
      exact lp_8 _ (1) ((-1)) _ _ _ (by omega) (by omega) (by omega) (Nat.lt_succ_self _) hP hS (lv_sub hl [0, 1, 2, 3, 4] rfl)
    · have q_49 : r_u_5.toInt = (0 : Int32).toInt := (ow_eq _ _).mp c_6
      refine lv_iconst (v := (-1)) hx hb dX12_good_17 (by decide) ?_
      refine W.widen (k := 0) (n := 0) (Nat.le_of_ble_eq_true rfl) (Nat.le_of_ble_eq_true rfl) ?_
      exact W.iret (v := (-1)) hx hb hr (fun t ht9 hW => ⟨⟨(-1), (), rfl, trivial, trivial⟩, hS.F ht9⟩) hS.2.2 dX12_good_18
