theorem k_126 : (Cond.code yX12_isWithin cX12_isWithin 5 (some .boolean)) ∈ TBg := tb_mem 1409 (by decide +kernel) (by decide +kernel)
theorem k_127 : (Cond.methodLink RX12 351 yX12_isWithin) ∈ TBg := tb_mem 1406 (by decide +kernel) (by decide +kernel)
theorem k_128 : (Cond.instanceMethod yX12_isWithin) ∈ TBg := tb_mem 1408 (by decide +kernel) (by decide +kernel)
theorem k_129 : (Cond.selects RX12 yX12_isWithin yX12_isWithin) ∈ TBg := tb_mem 70 (by decide +kernel) (by decide +kernel)
theorem k_130 : (Cond.code yX12_isLetter cX12_isLetter 1 (some .boolean)) ∈ TBg := tb_mem 1206 (by decide +kernel) (by decide +kernel)
theorem k_131 : (Cond.methodLink RX12 183 yX12_isLetter) ∈ TBg := tb_mem 1204 (by decide +kernel) (by decide +kernel)
theorem k_132 : (Cond.static yX12_isLetter) ∈ TBg := tb_mem 1205 (by decide +kernel) (by decide +kernel)
theorem k_133 : (Cond.code yX12_come cX12_come 3 (some .int)) ∈ TBg := tb_mem 1412 (by decide +kernel) (by decide +kernel)
theorem k_134 : (Cond.methodLink RX12 358 yX12_come) ∈ TBg := tb_mem 1410 (by decide +kernel) (by decide +kernel)
theorem k_135 : (Cond.static yX12_come) ∈ TBg := tb_mem 1411 (by decide +kernel) (by decide +kernel)
theorem k_136 : (Cond.code yX12_amount cX12_amount 11 (some .int)) ∈ TBg := tb_mem 1401 (by decide +kernel) (by decide +kernel)
theorem k_137 : (Cond.methodLink RX12 354 yX12_amount) ∈ TBg := tb_mem 1398 (by decide +kernel) (by decide +kernel)
theorem k_138 : (Cond.instanceMethod yX12_amount) ∈ TBg := tb_mem 1400 (by decide +kernel) (by decide +kernel)
theorem k_139 : (Cond.selects RX12 yX12_amount yX12_amount) ∈ TBg := tb_mem 68 (by decide +kernel) (by decide +kernel)
theorem k_140 : (Cond.code yX12_comes cX12_comes 9 (some .int)) ∈ TBg := tb_mem 1397 (by decide +kernel) (by decide +kernel)
theorem k_141 : (Cond.methodLink RX12 361 yX12_comes) ∈ TBg := tb_mem 1394 (by decide +kernel) (by decide +kernel)
theorem k_142 : (Cond.instanceMethod yX12_comes) ∈ TBg := tb_mem 1396 (by decide +kernel) (by decide +kernel)
theorem k_143 : (Cond.selects RX12 yX12_comes yX12_comes) ∈ TBg := tb_mem 67 (by decide +kernel) (by decide +kernel)
theorem dX12_come_0 : decode cX12_come 0 = .ok (.iload_n 0, 1) := by decide +kernel
theorem dX12_come_1 : decode cX12_come 1 = .ok (.lookupswitch 114 #[(38, 100), (43, 59), (45, 63), (60, 67), (61, 89), (62, 78)], 59) := by decide +kernel
theorem dX12_come_101 : decode cX12_come 101 = .ok (.iload_n 1, 1) := by decide +kernel
theorem dX12_come_102 : decode cX12_come 102 = .ok (.ifCond .eq 11, 3) := by decide +kernel
theorem dX12_come_113 : decode cX12_come 113 = .ok (.iconst 0, 1) := by decide +kernel
theorem dX12_come_114 : decode cX12_come 114 = .ok (.ireturn, 1) := by decide +kernel
theorem dX12_come_105 : decode cX12_come 105 = .ok (.iload_n 2, 1) := by decide +kernel
theorem dX12_come_106 : decode cX12_come 106 = .ok (.ifCond .eq 7, 3) := by decide +kernel
theorem dX12_come_109 : decode cX12_come 109 = .ok (.iconst 1, 1) := by decide +kernel
theorem dX12_come_110 : decode cX12_come 110 = .ok (.goto 4, 3) := by decide +kernel
theorem dX12_come_60 : decode cX12_come 60 = .ok (.iload_n 1, 1) := by decide +kernel
theorem dX12_come_61 : decode cX12_come 61 = .ok (.iload_n 2, 1) := by decide +kernel
theorem dX12_come_62 : decode cX12_come 62 = .ok (.iadd, 1) := by decide +kernel
theorem dX12_come_63 : decode cX12_come 63 = .ok (.ireturn, 1) := by decide +kernel
theorem dX12_come_64 : decode cX12_come 64 = .ok (.iload_n 1, 1) := by decide +kernel
theorem dX12_come_65 : decode cX12_come 65 = .ok (.iload_n 2, 1) := by decide +kernel
theorem dX12_come_66 : decode cX12_come 66 = .ok (.isub, 1) := by decide +kernel
theorem dX12_come_67 : decode cX12_come 67 = .ok (.ireturn, 1) := by decide +kernel
theorem dX12_come_68 : decode cX12_come 68 = .ok (.iload_n 1, 1) := by decide +kernel
theorem dX12_come_69 : decode cX12_come 69 = .ok (.iload_n 2, 1) := by decide +kernel
theorem dX12_come_70 : decode cX12_come 70 = .ok (.if_icmp .ge 7, 3) := by decide +kernel
theorem dX12_come_77 : decode cX12_come 77 = .ok (.iconst 0, 1) := by decide +kernel
theorem dX12_come_78 : decode cX12_come 78 = .ok (.ireturn, 1) := by decide +kernel
theorem dX12_come_73 : decode cX12_come 73 = .ok (.iconst 1, 1) := by decide +kernel
theorem dX12_come_74 : decode cX12_come 74 = .ok (.goto 4, 3) := by decide +kernel
theorem dX12_come_90 : decode cX12_come 90 = .ok (.iload_n 1, 1) := by decide +kernel
theorem dX12_come_91 : decode cX12_come 91 = .ok (.iload_n 2, 1) := by decide +kernel
theorem dX12_come_92 : decode cX12_come 92 = .ok (.if_icmp .ne 7, 3) := by decide +kernel
theorem dX12_come_99 : decode cX12_come 99 = .ok (.iconst 0, 1) := by decide +kernel
theorem dX12_come_100 : decode cX12_come 100 = .ok (.ireturn, 1) := by decide +kernel
theorem dX12_come_95 : decode cX12_come 95 = .ok (.iconst 1, 1) := by decide +kernel
theorem dX12_come_96 : decode cX12_come 96 = .ok (.goto 4, 3) := by decide +kernel
theorem dX12_come_79 : decode cX12_come 79 = .ok (.iload_n 1, 1) := by decide +kernel
theorem dX12_come_80 : decode cX12_come 80 = .ok (.iload_n 2, 1) := by decide +kernel
theorem dX12_come_81 : decode cX12_come 81 = .ok (.if_icmp .le 7, 3) := by decide +kernel
theorem dX12_come_88 : decode cX12_come 88 = .ok (.iconst 0, 1) := by decide +kernel
theorem dX12_come_89 : decode cX12_come 89 = .ok (.ireturn, 1) := by decide +kernel
theorem dX12_come_84 : decode cX12_come 84 = .ok (.iconst 1, 1) := by decide +kernel
theorem dX12_come_85 : decode cX12_come 85 = .ok (.goto 4, 3) := by decide +kernel
theorem dX12_come_115 : decode cX12_come 115 = .ok (.iload_n 1, 1) := by decide +kernel
theorem dX12_come_116 : decode cX12_come 116 = .ok (.ifCond .ne 7, 3) := by decide +kernel
theorem dX12_come_123 : decode cX12_come 123 = .ok (.iconst 1, 1) := by decide +kernel
theorem dX12_come_124 : decode cX12_come 124 = .ok (.goto 4, 3) := by decide +kernel
theorem dX12_come_128 : decode cX12_come 128 = .ok (.ireturn, 1) := by decide +kernel
theorem dX12_come_119 : decode cX12_come 119 = .ok (.iload_n 2, 1) := by decide +kernel
theorem dX12_come_120 : decode cX12_come 120 = .ok (.ifCond .eq 7, 3) := by decide +kernel
theorem dX12_come_127 : decode cX12_come 127 = .ok (.iconst 0, 1) := by decide +kernel
theorem dX12_amount_0 : decode cX12_amount 0 = .ok (.aload_n 0, 1) := by decide +kernel
theorem dX12_amount_1 : decode cX12_amount 1 = .ok (.getfield 65, 3) := by decide +kernel
theorem dX12_amount_4 : decode cX12_amount 4 = .ok (.iload_n 1, 1) := by decide +kernel
theorem dX12_amount_5 : decode cX12_amount 5 = .ok (.iaload, 1) := by decide +kernel
theorem dX12_amount_6 : decode cX12_amount 6 = .ok (.istore 6, 2) := by decide +kernel
theorem dX12_amount_8 : decode cX12_amount 8 = .ok (.aload_n 0, 1) := by decide +kernel
theorem dX12_amount_9 : decode cX12_amount 9 = .ok (.getfield 62, 3) := by decide +kernel
theorem dX12_amount_12 : decode cX12_amount 12 = .ok (.iload_n 1, 1) := by decide +kernel
theorem dX12_amount_13 : decode cX12_amount 13 = .ok (.iaload, 1) := by decide +kernel
theorem dX12_amount_14 : decode cX12_amount 14 = .ok (.bipush 107, 2) := by decide +kernel
theorem dX12_amount_16 : decode cX12_amount 16 = .ok (.if_icmp .ne 6, 3) := by decide +kernel
theorem dX12_amount_22 : decode cX12_amount 22 = .ok (.aload_n 0, 1) := by decide +kernel
theorem dX12_amount_23 : decode cX12_amount 23 = .ok (.getfield 62, 3) := by decide +kernel
theorem dX12_amount_26 : decode cX12_amount 26 = .ok (.iload_n 1, 1) := by decide +kernel
theorem dX12_amount_27 : decode cX12_amount 27 = .ok (.iaload, 1) := by decide +kernel
theorem dX12_amount_28 : decode cX12_amount 28 = .ok (.bipush 110, 2) := by decide +kernel
theorem dX12_amount_30 : decode cX12_amount 30 = .ok (.if_icmp .ne 14, 3) := by decide +kernel
theorem dX12_amount_44 : decode cX12_amount 44 = .ok (.aload_n 0, 1) := by decide +kernel
theorem dX12_amount_45 : decode cX12_amount 45 = .ok (.getfield 62, 3) := by decide +kernel
theorem dX12_amount_48 : decode cX12_amount 48 = .ok (.iload_n 1, 1) := by decide +kernel
theorem dX12_amount_49 : decode cX12_amount 49 = .ok (.iaload, 1) := by decide +kernel
theorem dX12_amount_50 : decode cX12_amount 50 = .ok (.bipush 109, 2) := by decide +kernel
theorem dX12_amount_52 : decode cX12_amount 52 = .ok (.if_icmp .ne 9, 3) := by decide +kernel
theorem dX12_amount_61 : decode cX12_amount 61 = .ok (.aload_n 0, 1) := by decide +kernel
theorem dX12_amount_62 : decode cX12_amount 62 = .ok (.getfield 62, 3) := by decide +kernel
theorem dX12_amount_65 : decode cX12_amount 65 = .ok (.iload_n 1, 1) := by decide +kernel
theorem dX12_amount_66 : decode cX12_amount 66 = .ok (.iaload, 1) := by decide +kernel
theorem dX12_amount_67 : decode cX12_amount 67 = .ok (.bipush 119, 2) := by decide +kernel
theorem dX12_amount_69 : decode cX12_amount 69 = .ok (.if_icmp .ne 6, 3) := by decide +kernel
theorem dX12_amount_75 : decode cX12_amount 75 = .ok (.aload_n 0, 1) := by decide +kernel
theorem dX12_amount_76 : decode cX12_amount 76 = .ok (.iload 6, 2) := by decide +kernel
theorem dX12_amount_78 : decode cX12_amount 78 = .ok (.invokevirtual 341, 3) := by decide +kernel
theorem dX12_amount_81 : decode cX12_amount 81 = .ok (.istore 7, 2) := by decide +kernel
theorem dX12_amount_83 : decode cX12_amount 83 = .ok (.aload_n 0, 1) := by decide +kernel
theorem dX12_amount_84 : decode cX12_amount 84 = .ok (.iload_n 3, 1) := by decide +kernel
theorem dX12_amount_85 : decode cX12_amount 85 = .ok (.invokevirtual 315, 3) := by decide +kernel
theorem dX12_amount_88 : decode cX12_amount 88 = .ok (.aload_n 0, 1) := by decide +kernel
theorem dX12_amount_89 : decode cX12_amount 89 = .ok (.iload 7, 2) := by decide +kernel
theorem dX12_amount_91 : decode cX12_amount 91 = .ok (.invokevirtual 315, 3) := by decide +kernel
theorem dX12_amount_94 : decode cX12_amount 94 = .ok (.isub, 1) := by decide +kernel
theorem dX12_amount_95 : decode cX12_amount 95 = .ok (.istore 8, 2) := by decide +kernel
theorem dX12_amount_97 : decode cX12_amount 97 = .ok (.aload_n 0, 1) := by decide +kernel
theorem dX12_amount_98 : decode cX12_amount 98 = .ok (.iload_n 2, 1) := by decide +kernel
theorem dX12_amount_99 : decode cX12_amount 99 = .ok (.iload 5, 2) := by decide +kernel
theorem dX12_amount_101 : decode cX12_amount 101 = .ok (.invokevirtual 348, 3) := by decide +kernel
theorem dX12_amount_104 : decode cX12_amount 104 = .ok (.istore 9, 2) := by decide +kernel
theorem dX12_amount_106 : decode cX12_amount 106 = .ok (.iload 8, 2) := by decide +kernel
theorem dX12_amount_108 : decode cX12_amount 108 = .ok (.ifCond .ge 5, 3) := by decide +kernel
theorem dX12_amount_113 : decode cX12_amount 113 = .ok (.aload_n 0, 1) := by decide +kernel
theorem dX12_amount_114 : decode cX12_amount 114 = .ok (.getfield 62, 3) := by decide +kernel
theorem dX12_amount_117 : decode cX12_amount 117 = .ok (.iload_n 1, 1) := by decide +kernel
theorem dX12_amount_118 : decode cX12_amount 118 = .ok (.iaload, 1) := by decide +kernel
theorem dX12_amount_119 : decode cX12_amount 119 = .ok (.bipush 105, 2) := by decide +kernel
theorem dX12_amount_121 : decode cX12_amount 121 = .ok (.if_icmp .ne 15, 3) := by decide +kernel
theorem dX12_amount_136 : decode cX12_amount 136 = .ok (.aload_n 0, 1) := by decide +kernel
theorem dX12_amount_137 : decode cX12_amount 137 = .ok (.iload 7, 2) := by decide +kernel
theorem dX12_amount_139 : decode cX12_amount 139 = .ok (.iload_n 3, 1) := by decide +kernel
theorem dX12_amount_140 : decode cX12_amount 140 = .ok (.aload_n 0, 1) := by decide +kernel
theorem dX12_amount_141 : decode cX12_amount 141 = .ok (.getfield 62, 3) := by decide +kernel
theorem dX12_amount_144 : decode cX12_amount 144 = .ok (.iload_n 1, 1) := by decide +kernel
theorem dX12_amount_145 : decode cX12_amount 145 = .ok (.iaload, 1) := by decide +kernel
theorem dX12_amount_146 : decode cX12_amount 146 = .ok (.bipush 98, 2) := by decide +kernel
theorem dX12_amount_148 : decode cX12_amount 148 = .ok (.if_icmp .ne 7, 3) := by decide +kernel
theorem dX12_amount_155 : decode cX12_amount 155 = .ok (.iload 8, 2) := by decide +kernel
theorem dX12_amount_157 : decode cX12_amount 157 = .ok (.invokevirtual 328, 3) := by decide +kernel
theorem dX12_amount_160 : decode cX12_amount 160 = .ok (.iload 9, 2) := by decide +kernel
theorem dX12_amount_162 : decode cX12_amount 162 = .ok (.if_icmp .gt 7, 3) := by decide +kernel
theorem dX12_amount_169 : decode cX12_amount 169 = .ok (.iconst 0, 1) := by decide +kernel
theorem dX12_amount_170 : decode cX12_amount 170 = .ok (.istore 10, 2) := by decide +kernel
theorem dX12_amount_172 : decode cX12_amount 172 = .ok (.iload 10, 2) := by decide +kernel
theorem dX12_amount_174 : decode cX12_amount 174 = .ok (.ifCond .eq 7, 3) := by decide +kernel
theorem dX12_amount_181 : decode cX12_amount 181 = .ok (.iconst 0, 1) := by decide +kernel
theorem dX12_amount_182 : decode cX12_amount 182 = .ok (.ireturn, 1) := by decide +kernel
theorem dX12_amount_165 : decode cX12_amount 165 = .ok (.iconst 1, 1) := by decide +kernel
theorem dX12_amount_166 : decode cX12_amount 166 = .ok (.goto 4, 3) := by decide +kernel
theorem dX12_amount_177 : decode cX12_amount 177 = .ok (.iconst 1, 1) := by decide +kernel
theorem dX12_amount_178 : decode cX12_amount 178 = .ok (.goto 4, 3) := by decide +kernel
theorem dX12_amount_151 : decode cX12_amount 151 = .ok (.iconst 0, 1) := by decide +kernel
theorem dX12_amount_152 : decode cX12_amount 152 = .ok (.goto 5, 3) := by decide +kernel
theorem dX12_amount_124 : decode cX12_amount 124 = .ok (.aload_n 0, 1) := by decide +kernel
theorem dX12_amount_125 : decode cX12_amount 125 = .ok (.iload 7, 2) := by decide +kernel
theorem dX12_amount_127 : decode cX12_amount 127 = .ok (.iload_n 3, 1) := by decide +kernel
theorem dX12_amount_128 : decode cX12_amount 128 = .ok (.iload 9, 2) := by decide +kernel
theorem dX12_amount_130 : decode cX12_amount 130 = .ok (.invokevirtual 351, 3) := by decide +kernel
theorem dX12_amount_133 : decode cX12_amount 133 = .ok (.goto 37, 3) := by decide +kernel
theorem dX12_amount_111 : decode cX12_amount 111 = .ok (.iconst 0, 1) := by decide +kernel
theorem dX12_amount_112 : decode cX12_amount 112 = .ok (.ireturn, 1) := by decide +kernel
theorem dX12_amount_72 : decode cX12_amount 72 = .ok (.iload 5, 2) := by decide +kernel
theorem dX12_amount_74 : decode cX12_amount 74 = .ok (.ireturn, 1) := by decide +kernel
theorem dX12_amount_55 : decode cX12_amount 55 = .ok (.aload_n 0, 1) := by decide +kernel
theorem dX12_amount_56 : decode cX12_amount 56 = .ok (.iload_n 3, 1) := by decide +kernel
theorem dX12_amount_57 : decode cX12_amount 57 = .ok (.invokevirtual 315, 3) := by decide +kernel
theorem dX12_amount_60 : decode cX12_amount 60 = .ok (.ireturn, 1) := by decide +kernel
theorem dX12_amount_33 : decode cX12_amount 33 = .ok (.iload 4, 2) := by decide +kernel
theorem dX12_amount_35 : decode cX12_amount 35 = .ok (.ifCond .eq 7, 3) := by decide +kernel
theorem dX12_amount_42 : decode cX12_amount 42 = .ok (.iconst 0, 1) := by decide +kernel
theorem dX12_amount_43 : decode cX12_amount 43 = .ok (.ireturn, 1) := by decide +kernel
theorem dX12_amount_38 : decode cX12_amount 38 = .ok (.iconst 1, 1) := by decide +kernel
theorem dX12_amount_39 : decode cX12_amount 39 = .ok (.goto 4, 3) := by decide +kernel
theorem dX12_amount_19 : decode cX12_amount 19 = .ok (.iload 6, 2) := by decide +kernel
theorem dX12_amount_21 : decode cX12_amount 21 = .ok (.ireturn, 1) := by decide +kernel
theorem dX12_comes_0 : decode cX12_comes 0 = .ok (.bipush 8, 2) := by decide +kernel
theorem dX12_comes_2 : decode cX12_comes 2 = .ok (.aload_n 0, 1) := by decide +kernel
theorem dX12_comes_3 : decode cX12_comes 3 = .ok (.getfield 227, 3) := by decide +kernel
theorem dX12_comes_6 : decode cX12_comes 6 = .ok (.imul, 1) := by decide +kernel
theorem dX12_comes_7 : decode cX12_comes 7 = .ok (.iload_n 1, 1) := by decide +kernel
theorem dX12_comes_8 : decode cX12_comes 8 = .ok (.iadd, 1) := by decide +kernel
theorem dX12_comes_9 : decode cX12_comes 9 = .ok (.istore 5, 2) := by decide +kernel
theorem dX12_comes_11 : decode cX12_comes 11 = .ok (.iconst 0, 1) := by decide +kernel
theorem dX12_comes_12 : decode cX12_comes 12 = .ok (.istore 6, 2) := by decide +kernel
theorem dX12_comes_14 : decode cX12_comes 14 = .ok (.aload_n 0, 1) := by decide +kernel
theorem dX12_comes_15 : decode cX12_comes 15 = .ok (.getfield 45, 3) := by decide +kernel
theorem dX12_comes_18 : decode cX12_comes 18 = .ok (.iload 5, 2) := by decide +kernel
theorem dX12_comes_20 : decode cX12_comes 20 = .ok (.iaload, 1) := by decide +kernel
theorem dX12_comes_21 : decode cX12_comes 21 = .ok (.istore 7, 2) := by decide +kernel
theorem dX12_comes_23 : decode cX12_comes 23 = .ok (.iload 7, 2) := by decide +kernel
theorem dX12_comes_25 : decode cX12_comes 25 = .ok (.aload_n 0, 1) := by decide +kernel
theorem dX12_comes_26 : decode cX12_comes 26 = .ok (.getfield 48, 3) := by decide +kernel
theorem dX12_comes_29 : decode cX12_comes 29 = .ok (.iload 5, 2) := by decide +kernel
theorem dX12_comes_31 : decode cX12_comes 31 = .ok (.iaload, 1) := by decide +kernel
theorem dX12_comes_32 : decode cX12_comes 32 = .ok (.if_icmp .ge 119, 3) := by decide +kernel
theorem dX12_comes_151 : decode cX12_comes 151 = .ok (.aload_n 0, 1) := by decide +kernel
theorem dX12_comes_152 : decode cX12_comes 152 = .ok (.getfield 74, 3) := by decide +kernel
theorem dX12_comes_155 : decode cX12_comes 155 = .ok (.iconst 0, 1) := by decide +kernel
theorem dX12_comes_156 : decode cX12_comes 156 = .ok (.iaload, 1) := by decide +kernel
theorem dX12_comes_157 : decode cX12_comes 157 = .ok (.ireturn, 1) := by decide +kernel
theorem dX12_comes_35 : decode cX12_comes 35 = .ok (.aload_n 0, 1) := by decide +kernel
theorem dX12_comes_36 : decode cX12_comes 36 = .ok (.getfield 62, 3) := by decide +kernel
theorem dX12_comes_39 : decode cX12_comes 39 = .ok (.iload 7, 2) := by decide +kernel
theorem dX12_comes_41 : decode cX12_comes 41 = .ok (.iaload, 1) := by decide +kernel
theorem dX12_comes_42 : decode cX12_comes 42 = .ok (.istore 8, 2) := by decide +kernel
theorem dX12_comes_44 : decode cX12_comes 44 = .ok (.iload 8, 2) := by decide +kernel
theorem dX12_comes_46 : decode cX12_comes 46 = .ok (.bipush 126, 2) := by decide +kernel
theorem dX12_comes_48 : decode cX12_comes 48 = .ok (.if_icmp .ne 32, 3) := by decide +kernel
theorem dX12_comes_80 : decode cX12_comes 80 = .ok (.iload 8, 2) := by decide +kernel
theorem dX12_comes_82 : decode cX12_comes 82 = .ok (.invokestatic 183, 3) := by decide +kernel
theorem dX12_comes_85 : decode cX12_comes 85 = .ok (.ifCond .eq 27, 3) := by decide +kernel
theorem dX12_comes_112 : decode cX12_comes 112 = .ok (.iinc 6 (-1), 3) := by decide +kernel
theorem dX12_comes_115 : decode cX12_comes 115 = .ok (.aload_n 0, 1) := by decide +kernel
theorem dX12_comes_116 : decode cX12_comes 116 = .ok (.getfield 74, 3) := by decide +kernel
theorem dX12_comes_119 : decode cX12_comes 119 = .ok (.iload 6, 2) := by decide +kernel
theorem dX12_comes_121 : decode cX12_comes 121 = .ok (.iconst 1, 1) := by decide +kernel
theorem dX12_comes_122 : decode cX12_comes 122 = .ok (.isub, 1) := by decide +kernel
theorem dX12_comes_123 : decode cX12_comes 123 = .ok (.iload 8, 2) := by decide +kernel
theorem dX12_comes_125 : decode cX12_comes 125 = .ok (.aload_n 0, 1) := by decide +kernel
theorem dX12_comes_126 : decode cX12_comes 126 = .ok (.getfield 74, 3) := by decide +kernel
theorem dX12_comes_129 : decode cX12_comes 129 = .ok (.iload 6, 2) := by decide +kernel
theorem dX12_comes_131 : decode cX12_comes 131 = .ok (.iconst 1, 1) := by decide +kernel
theorem dX12_comes_132 : decode cX12_comes 132 = .ok (.isub, 1) := by decide +kernel
theorem dX12_comes_133 : decode cX12_comes 133 = .ok (.iaload, 1) := by decide +kernel
theorem dX12_comes_134 : decode cX12_comes 134 = .ok (.aload_n 0, 1) := by decide +kernel
theorem dX12_comes_135 : decode cX12_comes 135 = .ok (.getfield 74, 3) := by decide +kernel
theorem dX12_comes_138 : decode cX12_comes 138 = .ok (.iload 6, 2) := by decide +kernel
theorem dX12_comes_140 : decode cX12_comes 140 = .ok (.iaload, 1) := by decide +kernel
theorem dX12_comes_141 : decode cX12_comes 141 = .ok (.invokestatic 358, 3) := by decide +kernel
theorem dX12_comes_144 : decode cX12_comes 144 = .ok (.iastore, 1) := by decide +kernel
theorem dX12_comes_145 : decode cX12_comes 145 = .ok (.iinc 7 1, 3) := by decide +kernel
theorem dX12_comes_148 : decode cX12_comes 148 = .ok (.goto (-125), 3) := by decide +kernel
theorem dX12_comes_88 : decode cX12_comes 88 = .ok (.aload_n 0, 1) := by decide +kernel
theorem dX12_comes_89 : decode cX12_comes 89 = .ok (.getfield 74, 3) := by decide +kernel
theorem dX12_comes_92 : decode cX12_comes 92 = .ok (.iload 6, 2) := by decide +kernel
theorem dX12_comes_94 : decode cX12_comes 94 = .ok (.aload_n 0, 1) := by decide +kernel
theorem dX12_comes_95 : decode cX12_comes 95 = .ok (.iload 7, 2) := by decide +kernel
theorem dX12_comes_97 : decode cX12_comes 97 = .ok (.iload_n 1, 1) := by decide +kernel
theorem dX12_comes_98 : decode cX12_comes 98 = .ok (.iload_n 2, 1) := by decide +kernel
theorem dX12_comes_99 : decode cX12_comes 99 = .ok (.iload_n 3, 1) := by decide +kernel
theorem dX12_comes_100 : decode cX12_comes 100 = .ok (.iload 4, 2) := by decide +kernel
theorem dX12_comes_102 : decode cX12_comes 102 = .ok (.invokevirtual 354, 3) := by decide +kernel
theorem dX12_comes_105 : decode cX12_comes 105 = .ok (.iastore, 1) := by decide +kernel
theorem dX12_comes_106 : decode cX12_comes 106 = .ok (.iinc 6 1, 3) := by decide +kernel
theorem dX12_comes_109 : decode cX12_comes 109 = .ok (.goto 36, 3) := by decide +kernel
theorem dX12_comes_51 : decode cX12_comes 51 = .ok (.aload_n 0, 1) := by decide +kernel
theorem dX12_comes_52 : decode cX12_comes 52 = .ok (.getfield 74, 3) := by decide +kernel
theorem dX12_comes_55 : decode cX12_comes 55 = .ok (.iload 6, 2) := by decide +kernel
theorem dX12_comes_57 : decode cX12_comes 57 = .ok (.iconst 1, 1) := by decide +kernel
theorem dX12_comes_58 : decode cX12_comes 58 = .ok (.isub, 1) := by decide +kernel
theorem dX12_comes_59 : decode cX12_comes 59 = .ok (.aload_n 0, 1) := by decide +kernel
theorem dX12_comes_60 : decode cX12_comes 60 = .ok (.getfield 74, 3) := by decide +kernel
theorem dX12_comes_63 : decode cX12_comes 63 = .ok (.iload 6, 2) := by decide +kernel
theorem dX12_comes_65 : decode cX12_comes 65 = .ok (.iconst 1, 1) := by decide +kernel
theorem dX12_comes_66 : decode cX12_comes 66 = .ok (.isub, 1) := by decide +kernel
theorem dX12_comes_67 : decode cX12_comes 67 = .ok (.iaload, 1) := by decide +kernel
theorem dX12_comes_68 : decode cX12_comes 68 = .ok (.ifCond .ne 7, 3) := by decide +kernel
theorem dX12_comes_75 : decode cX12_comes 75 = .ok (.iconst 0, 1) := by decide +kernel
theorem dX12_comes_76 : decode cX12_comes 76 = .ok (.iastore, 1) := by decide +kernel
theorem dX12_comes_77 : decode cX12_comes 77 = .ok (.goto 68, 3) := by decide +kernel
theorem dX12_comes_71 : decode cX12_comes 71 = .ok (.iconst 1, 1) := by decide +kernel
theorem dX12_comes_72 : decode cX12_comes 72 = .ok (.goto 4, 3) := by decide +kernel
theorem dX12_opens_0 : decode cX12_opens 0 = .ok (.aload_n 0, 1) := by decide +kernel
theorem dX12_opens_1 : decode cX12_opens 1 = .ok (.iload_n 2, 1) := by decide +kernel
theorem dX12_opens_2 : decode cX12_opens 2 = .ok (.invokevirtual 315, 3) := by decide +kernel
theorem dX12_opens_5 : decode cX12_opens 5 = .ok (.ifCond .le 19, 3) := by decide +kernel
theorem dX12_opens_24 : decode cX12_opens 24 = .ok (.iconst 0, 1) := by decide +kernel
theorem dX12_opens_25 : decode cX12_opens 25 = .ok (.ireturn, 1) := by decide +kernel
theorem dX12_opens_8 : decode cX12_opens 8 = .ok (.aload_n 0, 1) := by decide +kernel
theorem dX12_opens_9 : decode cX12_opens 9 = .ok (.iload_n 1, 1) := by decide +kernel
theorem dX12_opens_10 : decode cX12_opens 10 = .ok (.iload_n 2, 1) := by decide +kernel
theorem dX12_opens_11 : decode cX12_opens 11 = .ok (.iload_n 3, 1) := by decide +kernel
theorem dX12_opens_12 : decode cX12_opens 12 = .ok (.iload 4, 2) := by decide +kernel
theorem dX12_opens_14 : decode cX12_opens 14 = .ok (.invokevirtual 361, 3) := by decide +kernel
theorem dX12_opens_17 : decode cX12_opens 17 = .ok (.ifCond .eq 7, 3) := by decide +kernel
theorem dX12_opens_20 : decode cX12_opens 20 = .ok (.iconst 1, 1) := by decide +kernel
theorem dX12_opens_21 : decode cX12_opens 21 = .ok (.goto 4, 3) := by decide +kernel
set_option maxHeartbeats 4000000 in
set_option maxRecDepth 100000 in
theorem m_come (l : Launch) (G : va_G) (cy : Nat → ClassId) (sz : Nat)  (n : Int32) (n2 : Int32) (n3 : Int32)    : Met l yX12_come (.code yX12_come cX12_come 3 (some .int) :: TBg) ({ frames := 1, cells := 0, slots := 0, locals := 64 }) (va_Pc [.int n, .int n2, .int n3] (En G cy [] sz)) (va_Qi (fun (r : Int32) (_ : Unit) => True) (fun _ _ => True) (va_A [] sz)) 0 0 (va_A [] sz) := by
  refine Met.ofW (cc := cX12_come) (maxL := 3) (ret := (some .int)) (by decide) rfl ?_
  intro p e s m args below meth c s₁ B hml hv9
  obtain ⟨rfl, hsz, hP, hK, hD0, hN⟩ := hv9
  have hx := B.exec
  have hb := B.bytes
  have hr := B.returns
  have hts := atoms_spec (ws := .code yX12_come cX12_come 3 (some .int) :: TBg) B.pre
  have ht : ∀ w ∈ TBg, w.before _ s = true := fun w h => hts w (List.mem_cons_of_mem _ h)
  have hown : s.vm.findClass RX12 = some m.cls := findClass_of_methodNamed B.named
  have hlocks := B.notSynchronized
  subst hsz
  generalize hAe : va_A [] s.heap.size = A at ⊢
  have hA : ∀ q : Nat, s.heap.size ≤ q → A q := fun q h => by rw [← hAe]; exact Or.inr h
  have hS : va_S A s.heap s.heap [] := va_S.rf
  have hl := lv_entry ([.int n, .int n2, .int n3]) (n := 3) (Nat.le_of_ble_eq_true rfl)
  rw [lg_entry_eq]
  generalize (lg_sl ([.int n, .int n2, .int n3]) ++ List.replicate (3 - (lg_sl ([.int n, .int n2, .int n3])).length) Slot.unset).toArray = ls at hl ⊢
  have hl : lv_has ls 3 [(0, .int n), (1, .int n2), (2, .int n3)] := hl
  have z0 : (0 : Int32).toInt = 0 := by decide
  have z1 : (1 : Int32).toInt = 1 := by decide
  refine lv_iload_n hx hb dX12_come_0 rfl (lv_at hl 0 rfl) ?_
  by_cases k_1 : n = 38
  · refine ow_top 38 k_1 ?_
    refine lv_lookup (off := 100) (tgt := 101) hx hb dX12_come_1 (by decide) (by decide +kernel) (by decide) ?_
    refine lv_iload_n hx hb dX12_come_101 rfl (lv_at hl 1 rfl) ?_
    refine lv_if_eq (tgt := 113) hx hb dX12_come_102 (by decide) (fun c_2 => ?_) (fun c_2 => ?_)
    · have q_3 : n2.toInt = (0 : Int32).toInt := (ow_eq _ _).mp c_2
      refine lv_iconst (v := 0) hx hb dX12_come_113 (by decide) ?_
      refine W.widen (k := 0) (n := 0) (Nat.le_of_ble_eq_true rfl) (Nat.le_of_ble_eq_true rfl) ?_
      exact W.iret (v := 0) hx hb hr (fun t ht9 hW => ⟨⟨0, (), rfl, trivial, trivial⟩, hS.F ht9⟩) hS.2.2 dX12_come_114
    · have q_4 : ¬ n2.toInt = (0 : Int32).toInt := by have := (not_congr (ow_eq _ _)).mp c_2; omega
      refine lv_iload_n hx hb dX12_come_105 rfl (lv_at hl 2 rfl) ?_
      refine lv_if_eq (tgt := 113) hx hb dX12_come_106 (by decide) (fun c_5 => ?_) (fun c_5 => ?_)
      · have q_6 : n3.toInt = (0 : Int32).toInt := (ow_eq _ _).mp c_5
        refine lv_iconst (v := 0) hx hb dX12_come_113 (by decide) ?_
        refine W.widen (k := 0) (n := 0) (Nat.le_of_ble_eq_true rfl) (Nat.le_of_ble_eq_true rfl) ?_
        exact W.iret (v := 0) hx hb hr (fun t ht9 hW => ⟨⟨0, (), rfl, trivial, trivial⟩, hS.F ht9⟩) hS.2.2 dX12_come_114
      · have q_7 : ¬ n3.toInt = (0 : Int32).toInt := by have := (not_congr (ow_eq _ _)).mp c_5; omega
        refine lv_iconst (v := 1) hx hb dX12_come_109 (by decide) ?_
        refine lv_goto (tgt := 114) hx hb dX12_come_110 (by decide) ?_
        refine W.widen (k := 0) (n := 0) (Nat.le_of_ble_eq_true rfl) (Nat.le_of_ble_eq_true rfl) ?_
        exact W.iret (v := 1) hx hb hr (fun t ht9 hW => ⟨⟨1, (), rfl, trivial, trivial⟩, hS.F ht9⟩) hS.2.2 dX12_come_114
  by_cases k_8 : n = 43
  · refine ow_top 43 k_8 ?_
    refine lv_lookup (off := 59) (tgt := 60) hx hb dX12_come_1 (by decide) (by decide +kernel) (by decide) ?_
    refine lv_iload_n hx hb dX12_come_60 rfl (lv_at hl 1 rfl) ?_
    refine lv_iload_n hx hb dX12_come_61 rfl (lv_at hl 2 rfl) ?_
    refine lv_iadd hx hb dX12_come_62 ?_
    refine lv_topi (fun v_9 ev_9 => ?_)
    refine W.widen (k := 0) (n := 0) (Nat.le_of_ble_eq_true rfl) (Nat.le_of_ble_eq_true rfl) ?_
    exact W.iret (v := v_9) hx hb hr (fun t ht9 hW => ⟨⟨v_9, (), rfl, trivial, trivial⟩, hS.F ht9⟩) hS.2.2 dX12_come_63
  by_cases k_10 : n = 45
  · refine ow_top 45 k_10 ?_
    refine lv_lookup (off := 63) (tgt := 64) hx hb dX12_come_1 (by decide) (by decide +kernel) (by decide) ?_
    refine lv_iload_n hx hb dX12_come_64 rfl (lv_at hl 1 rfl) ?_
    refine lv_iload_n hx hb dX12_come_65 rfl (lv_at hl 2 rfl) ?_
    refine lv_isub hx hb dX12_come_66 ?_
    refine lv_topi (fun v_11 ev_11 => ?_)
    refine W.widen (k := 0) (n := 0) (Nat.le_of_ble_eq_true rfl) (Nat.le_of_ble_eq_true rfl) ?_
    exact W.iret (v := v_11) hx hb hr (fun t ht9 hW => ⟨⟨v_11, (), rfl, trivial, trivial⟩, hS.F ht9⟩) hS.2.2 dX12_come_67
  by_cases k_12 : n = 60
  · refine ow_top 60 k_12 ?_
    refine lv_lookup (off := 67) (tgt := 68) hx hb dX12_come_1 (by decide) (by decide +kernel) (by decide) ?_
    refine lv_iload_n hx hb dX12_come_68 rfl (lv_at hl 1 rfl) ?_
    refine lv_iload_n hx hb dX12_come_69 rfl (lv_at hl 2 rfl) ?_
    refine lv_icmp_ge (tgt := 77) hx hb dX12_come_70 (by decide) (fun c_13 => ?_) (fun c_13 => ?_)
    · have q_14 : n3.toInt ≤ n2.toInt := (ow_le _ _).mp c_13
      refine lv_iconst (v := 0) hx hb dX12_come_77 (by decide) ?_
      refine W.widen (k := 0) (n := 0) (Nat.le_of_ble_eq_true rfl) (Nat.le_of_ble_eq_true rfl) ?_
      exact W.iret (v := 0) hx hb hr (fun t ht9 hW => ⟨⟨0, (), rfl, trivial, trivial⟩, hS.F ht9⟩) hS.2.2 dX12_come_78
    · have q_15 : n2.toInt < n3.toInt := by have := (not_congr (ow_le _ _)).mp c_13; omega
      refine lv_iconst (v := 1) hx hb dX12_come_73 (by decide) ?_
      refine lv_goto (tgt := 78) hx hb dX12_come_74 (by decide) ?_
      refine W.widen (k := 0) (n := 0) (Nat.le_of_ble_eq_true rfl) (Nat.le_of_ble_eq_true rfl) ?_
      exact W.iret (v := 1) hx hb hr (fun t ht9 hW => ⟨⟨1, (), rfl, trivial, trivial⟩, hS.F ht9⟩) hS.2.2 dX12_come_78
  by_cases k_16 : n = 61
  · refine ow_top 61 k_16 ?_
    refine lv_lookup (off := 89) (tgt := 90) hx hb dX12_come_1 (by decide) (by decide +kernel) (by decide) ?_
    refine lv_iload_n hx hb dX12_come_90 rfl (lv_at hl 1 rfl) ?_
    refine lv_iload_n hx hb dX12_come_91 rfl (lv_at hl 2 rfl) ?_
    refine lv_icmp_ne (tgt := 99) hx hb dX12_come_92 (by decide) (fun c_17 => ?_) (fun c_17 => ?_)
    · have q_18 : ¬ n2.toInt = n3.toInt := by have := (not_congr (ow_eq _ _)).mp c_17; omega
      refine lv_iconst (v := 0) hx hb dX12_come_99 (by decide) ?_
      refine W.widen (k := 0) (n := 0) (Nat.le_of_ble_eq_true rfl) (Nat.le_of_ble_eq_true rfl) ?_
      exact W.iret (v := 0) hx hb hr (fun t ht9 hW => ⟨⟨0, (), rfl, trivial, trivial⟩, hS.F ht9⟩) hS.2.2 dX12_come_100
    · have q_19 : n2.toInt = n3.toInt := (ow_eq _ _).mp c_17
      refine lv_iconst (v := 1) hx hb dX12_come_95 (by decide) ?_
      refine lv_goto (tgt := 100) hx hb dX12_come_96 (by decide) ?_
      refine W.widen (k := 0) (n := 0) (Nat.le_of_ble_eq_true rfl) (Nat.le_of_ble_eq_true rfl) ?_
      exact W.iret (v := 1) hx hb hr (fun t ht9 hW => ⟨⟨1, (), rfl, trivial, trivial⟩, hS.F ht9⟩) hS.2.2 dX12_come_100
  by_cases k_20 : n = 62
  · refine ow_top 62 k_20 ?_
    refine lv_lookup (off := 78) (tgt := 79) hx hb dX12_come_1 (by decide) (by decide +kernel) (by decide) ?_
    refine lv_iload_n hx hb dX12_come_79 rfl (lv_at hl 1 rfl) ?_
    refine lv_iload_n hx hb dX12_come_80 rfl (lv_at hl 2 rfl) ?_
    refine lv_icmp_le (tgt := 88) hx hb dX12_come_81 (by decide) (fun c_21 => ?_) (fun c_21 => ?_)
    · have q_22 : n2.toInt ≤ n3.toInt := (ow_le _ _).mp c_21
      refine lv_iconst (v := 0) hx hb dX12_come_88 (by decide) ?_
      refine W.widen (k := 0) (n := 0) (Nat.le_of_ble_eq_true rfl) (Nat.le_of_ble_eq_true rfl) ?_
      exact W.iret (v := 0) hx hb hr (fun t ht9 hW => ⟨⟨0, (), rfl, trivial, trivial⟩, hS.F ht9⟩) hS.2.2 dX12_come_89
    · have q_23 : n3.toInt < n2.toInt := by have := (not_congr (ow_le _ _)).mp c_21; omega
      refine lv_iconst (v := 1) hx hb dX12_come_84 (by decide) ?_
      refine lv_goto (tgt := 89) hx hb dX12_come_85 (by decide) ?_
      refine W.widen (k := 0) (n := 0) (Nat.le_of_ble_eq_true rfl) (Nat.le_of_ble_eq_true rfl) ?_
      exact W.iret (v := 1) hx hb hr (fun t ht9 hW => ⟨⟨1, (), rfl, trivial, trivial⟩, hS.F ht9⟩) hS.2.2 dX12_come_89
  refine lv_lookup (off := 114) (tgt := 115) hx hb dX12_come_1 (by decide) (by show Op.lookupswitch.offset [(38, 100), (43, 59), (45, 63), (60, 67), (61, 89), (62, 78)] 114 _ = _; rw [lv_osw (a := 38) k_1 (by decide), lv_osw (a := 43) k_8 (by decide), lv_osw (a := 45) k_10 (by decide), lv_osw (a := 60) k_12 (by decide), lv_osw (a := 61) k_16 (by decide), lv_osw (a := 62) k_20 (by decide)]; rfl) (by decide) ?_
  refine lv_iload_n hx hb dX12_come_115 rfl (lv_at hl 1 rfl) ?_
  refine lv_if_ne (tgt := 123) hx hb dX12_come_116 (by decide) (fun c_24 => ?_) (fun c_24 => ?_)
  · have q_25 : ¬ n2.toInt = (0 : Int32).toInt := by have := (not_congr (ow_eq _ _)).mp c_24; omega
    refine lv_iconst (v := 1) hx hb dX12_come_123 (by decide) ?_
    refine lv_goto (tgt := 128) hx hb dX12_come_124 (by decide) ?_
    refine W.widen (k := 0) (n := 0) (Nat.le_of_ble_eq_true rfl) (Nat.le_of_ble_eq_true rfl) ?_
    exact W.iret (v := 1) hx hb hr (fun t ht9 hW => ⟨⟨1, (), rfl, trivial, trivial⟩, hS.F ht9⟩) hS.2.2 dX12_come_128
  · have q_26 : n2.toInt = (0 : Int32).toInt := (ow_eq _ _).mp c_24
    refine lv_iload_n hx hb dX12_come_119 rfl (lv_at hl 2 rfl) ?_
    refine lv_if_eq (tgt := 127) hx hb dX12_come_120 (by decide) (fun c_27 => ?_) (fun c_27 => ?_)
    · have q_28 : n3.toInt = (0 : Int32).toInt := (ow_eq _ _).mp c_27
      refine lv_iconst (v := 0) hx hb dX12_come_127 (by decide) ?_
      refine W.widen (k := 0) (n := 0) (Nat.le_of_ble_eq_true rfl) (Nat.le_of_ble_eq_true rfl) ?_
      exact W.iret (v := 0) hx hb hr (fun t ht9 hW => ⟨⟨0, (), rfl, trivial, trivial⟩, hS.F ht9⟩) hS.2.2 dX12_come_128
    · have q_29 : ¬ n3.toInt = (0 : Int32).toInt := by have := (not_congr (ow_eq _ _)).mp c_27; omega
      refine lv_iconst (v := 1) hx hb dX12_come_123 (by decide) ?_
      refine lv_goto (tgt := 128) hx hb dX12_come_124 (by decide) ?_
      refine W.widen (k := 0) (n := 0) (Nat.le_of_ble_eq_true rfl) (Nat.le_of_ble_eq_true rfl) ?_
      exact W.iret (v := 1) hx hb hr (fun t ht9 hW => ⟨⟨1, (), rfl, trivial, trivial⟩, hS.F ht9⟩) hS.2.2 dX12_come_128
set_option maxHeartbeats 4000000 in
set_option maxRecDepth 100000 in
theorem m_amount (l : Launch) (G : va_G) (cy : Nat → ClassId) (sz : Nat) (mo : Nat) (h : Nat → Nat) (T : Int) (v : Nat → Int32) (nm : Int64) (f : Nat → Nat → Int32) (g : Nat → Nat → Int64) (n : Int32) (n2 : Int32) (n3 : Int32) (n4 : Int32) (n5 : Int32)  (hv : MIv T v) (hf : MIf f) (hR : RI v f) (hL : WL v f) (h_n : 0 ≤ n.toInt ∧ n.toInt ≤ 1199) (h_n2 : 0 ≤ n2.toInt ∧ n2.toInt ≤ 7) (h_n3 : 0 ≤ n3.toInt ∧ n3.toInt ≤ 28) (hok : okc (f 24 (Int32.toNatClampNeg n)).toInt (f 25 (Int32.toNatClampNeg n)).toInt) : Met l yX12_amount (.code yX12_amount cX12_amount 11 (some .int) :: TBg) ({ frames := 5, cells := 0, slots := 0, locals := 320 }) (va_Pc [.ref mo, .int n, .int n2, .int n3, .int n4, .int n5] (En G cy (WMs cy mo h v nm f g) sz)) (va_Qi (fun (r : Int32) (_ : Unit) => True) (fun _ _ => True) (va_A [] sz)) 0 0 (va_A [] sz) := by
  refine Met.ofW (cc := cX12_amount) (maxL := 11) (ret := (some .int)) (by decide) rfl ?_
  intro p e s m args below meth c s₁ B hml hv9
  obtain ⟨rfl, hsz, hP, hK, hD0, hN⟩ := hv9
  have hx := B.exec
  have hb := B.bytes
  have hr := B.returns
  have hts := atoms_spec (ws := .code yX12_amount cX12_amount 11 (some .int) :: TBg) B.pre
  have ht : ∀ w ∈ TBg, w.before _ s = true := fun w h => hts w (List.mem_cons_of_mem _ h)
  have hown : s.vm.findClass RX12 = some m.cls := findClass_of_methodNamed B.named
  have hlocks := B.notSynchronized
  subst hsz
  generalize hAe : va_A [] s.heap.size = A at ⊢
  have hA : ∀ q : Nat, s.heap.size ≤ q → A q := fun q h => by rw [← hAe]; exact Or.inr h
  have hS : va_S A s.heap s.heap [] := va_S.rf
  have hl := lv_entry ([.ref mo, .int n, .int n2, .int n3, .int n4, .int n5]) (n := 11) (Nat.le_of_ble_eq_true rfl)
  rw [lg_entry_eq]
  generalize (lg_sl ([.ref mo, .int n, .int n2, .int n3, .int n4, .int n5]) ++ List.replicate (11 - (lg_sl ([.ref mo, .int n, .int n2, .int n3, .int n4, .int n5])).length) Slot.unset).toArray = ls at hl ⊢
  have hl : lv_has ls 11 [(0, .ref mo), (1, .int n), (2, .int n2), (3, .int n3), (4, .int n4), (5, .int n5)] := hl
  have z0 : (0 : Int32).toInt = 0 := by decide
  have z1 : (1 : Int32).toInt = 1 := by decide
  have z2 : (98 : Int32).toInt = 98 := by decide
  have z3 : (105 : Int32).toInt = 105 := by decide
  have z4 : (107 : Int32).toInt = 107 := by decide
  have z5 : (109 : Int32).toInt = 109 := by decide
  have z6 : (110 : Int32).toInt = 110 := by decide
  have z7 : (119 : Int32).toInt = 119 := by decide
  unfold okc at hok
  refine lv_aload_n hx hb dX12_amount_0 rfl (lv_at hl 0 rfl) ?_
  refine mg_25 hx hb ht hown hK hP dX12_amount_1 ?_
  refine lv_iload_n hx hb dX12_amount_4 rfl (lv_at hl 1 rfl) ?_
  have q_1 : vp_in n 1200 := vp_in_iff.mpr ⟨by omega, by omega⟩
  refine ml_25 hx hb hK hP q_1 dX12_amount_5 ?_
  refine lv_topi (fun v_2 ev_2 => ?_)
  have q_3 : v_2.toInt = ((f 25) (Int32.toNatClampNeg n)).toInt := (congrArg Int32.toInt ev_2).trans (congrArg (fun z : Nat → Int32 => (z (Int32.toNatClampNeg n)).toInt) (show f 25 = (f 25) from rfl))
  refine lv_istore (lv' := [(6, .int v_2), (0, .ref mo), (1, .int n), (2, .int n2), (3, .int n3), (4, .int n4), (5, .int n5)]) hx hb dX12_amount_6 hl (by decide) rfl (fun ls hl => ?_)
  refine lv_aload_n hx hb dX12_amount_8 rfl (lv_at hl 1 rfl) ?_
  refine mg_24 hx hb ht hown hK hP dX12_amount_9 ?_
  refine lv_iload_n hx hb dX12_amount_12 rfl (lv_at hl 2 rfl) ?_
  have q_4 : vp_in n 1200 := vp_in_iff.mpr ⟨by omega, by omega⟩
  refine ml_24 hx hb hK hP q_4 dX12_amount_13 ?_
  refine lv_topi (fun v_5 ev_5 => ?_)
  have q_6 : v_5.toInt = ((f 24) (Int32.toNatClampNeg n)).toInt := (congrArg Int32.toInt ev_5).trans (congrArg (fun z : Nat → Int32 => (z (Int32.toNatClampNeg n)).toInt) (show f 24 = (f 24) from rfl))
  refine lv_bipush (v := 107) hx hb dX12_amount_14 (by decide) ?_
  refine lv_icmp_ne (tgt := 22) hx hb dX12_amount_16 (by decide) (fun c_7 => ?_) (fun c_7 => ?_)
  · have q_8 : ¬ v_5.toInt = (107 : Int32).toInt := by have := (not_congr (ow_eq _ _)).mp c_7; omega
    refine lv_aload_n hx hb dX12_amount_22 rfl (lv_at hl 1 rfl) ?_
    refine mg_24 hx hb ht hown hK hP dX12_amount_23 ?_
    refine lv_iload_n hx hb dX12_amount_26 rfl (lv_at hl 2 rfl) ?_
    refine ml_24 hx hb hK hP q_4 dX12_amount_27 ?_
    refine ow_top v_5 ev_5.symm ?_
    refine lv_bipush (v := 110) hx hb dX12_amount_28 (by decide) ?_
    refine lv_icmp_ne (tgt := 44) hx hb dX12_amount_30 (by decide) (fun c_9 => ?_) (fun c_9 => ?_)
    · have q_10 : ¬ v_5.toInt = (110 : Int32).toInt := by have := (not_congr (ow_eq _ _)).mp c_9; omega
      refine lv_aload_n hx hb dX12_amount_44 rfl (lv_at hl 1 rfl) ?_
      refine mg_24 hx hb ht hown hK hP dX12_amount_45 ?_
      refine lv_iload_n hx hb dX12_amount_48 rfl (lv_at hl 2 rfl) ?_
      refine ml_24 hx hb hK hP q_4 dX12_amount_49 ?_
      refine ow_top v_5 ev_5.symm ?_
      refine lv_bipush (v := 109) hx hb dX12_amount_50 (by decide) ?_
      refine lv_icmp_ne (tgt := 61) hx hb dX12_amount_52 (by decide) (fun c_11 => ?_) (fun c_11 => ?_)
      · have q_12 : ¬ v_5.toInt = (109 : Int32).toInt := by have := (not_congr (ow_eq _ _)).mp c_11; omega
        refine lv_aload_n hx hb dX12_amount_61 rfl (lv_at hl 1 rfl) ?_
        refine mg_24 hx hb ht hown hK hP dX12_amount_62 ?_
        refine lv_iload_n hx hb dX12_amount_65 rfl (lv_at hl 2 rfl) ?_
        refine ml_24 hx hb hK hP q_4 dX12_amount_66 ?_
        refine ow_top v_5 ev_5.symm ?_
        refine lv_bipush (v := 119) hx hb dX12_amount_67 (by decide) ?_
        refine lv_icmp_ne (tgt := 75) hx hb dX12_amount_69 (by decide) (fun c_13 => ?_) (fun c_13 => ?_)
        · have q_14 : ¬ v_5.toInt = (119 : Int32).toInt := by have := (not_congr (ow_eq _ _)).mp c_13; omega
          refine lv_aload_n hx hb dX12_amount_75 rfl (lv_at hl 1 rfl) ?_
          refine lv_iload hx hb dX12_amount_76 (lv_at hl 0 rfl) ?_
          have hFc := fr_new hS hA
          refine va_calli (va_runV (As := [.int v_2]) (rest := []) ⟨hx, hb, hml, hown, ht⟩ (m_songOf l G cy _ mo h T v nm f g v_2  hv hf hR hL (by omega)) (cwV 1 ht (gv k_94 k_95 k_96 k_61 k_93) rfl rfl rfl (by decide +kernel) ⟨Nat.le_of_ble_eq_true rfl, Nat.le_of_ble_eq_true rfl⟩) ⟨En.blind, va_recv hK hP (ci := 12) (q0 := 0) rfl rfl, fun U hU hW => ⟨rfl, En.of hU hW hP hK hD0 hN⟩⟩ rfl rfl hl.1 rfl (lv_room (Nat.le_of_ble_eq_true rfl)) dX12_amount_78 ⟨Nat.le_of_ble_eq_true rfl, Nat.le_of_ble_eq_true rfl⟩) hS (fun q _ h => hFc q h) hFc (fun r_u_15 u_15 t9 H locs ht9 hvm hw hB hz1 hk1 hS => ?_)
          have hP := fr_keep hP hk1
          have wu_15 := hw
          clear hFc hk1 hz1 hB hw
          refine lv_istore (lv' := [(7, .int r_u_15), (6, .int v_2), (0, .ref mo), (1, .int n), (2, .int n2), (3, .int n3), (4, .int n4), (5, .int n5)]) hx hb dX12_amount_81 hl (by decide) rfl (fun ls hl => ?_)
          refine lv_aload_n hx hb dX12_amount_83 rfl (lv_at hl 2 rfl) ?_
          refine lv_iload_n hx hb dX12_amount_84 rfl (lv_at hl 5 rfl) ?_
          have hFc := fr_new hS hA
          refine va_calli (va_runV (As := [.int n3]) (rest := []) ⟨hx, hb, hml, hown, ht⟩ (m_many28 l G cy _ mo h T v nm f g n3  hv hf hR hL (by omega)) (cwV 1 ht (gv k_63 k_64 k_65 k_61 k_62) rfl rfl rfl (by decide +kernel) ⟨Nat.le_of_ble_eq_true rfl, Nat.le_of_ble_eq_true rfl⟩) ⟨En.blind, va_recv hK hP (ci := 12) (q0 := 0) rfl rfl, fun U hU hW => ⟨rfl, En.of hU hW hP hK hD0 hN⟩⟩ rfl rfl hl.1 rfl (lv_room (Nat.le_of_ble_eq_true rfl)) dX12_amount_85 ⟨Nat.le_of_ble_eq_true rfl, Nat.le_of_ble_eq_true rfl⟩) hS (fun q _ h => hFc q h) hFc (fun r_u_16 u_16 t9 H locs ht9 hvm hw hB hz1 hk1 hS => ?_)
          have hP := fr_keep hP hk1
          have wu_16 := hw
          clear hFc hk1 hz1 hB hw
          refine lv_aload_n hx hb dX12_amount_88 rfl (lv_at hl 2 rfl) ?_
          refine lv_iload hx hb dX12_amount_89 (lv_at hl 0 rfl) ?_
          have hFc := fr_new hS hA
          refine va_calli (va_runV (As := [.int r_u_15]) (rest := [.int r_u_16]) ⟨hx, hb, hml, hown, ht⟩ (m_many27 l G cy _ mo h T v nm f g r_u_15  hv hf hR hL (by omega)) (cwV 1 ht (gv k_63 k_64 k_65 k_61 k_62) rfl rfl rfl (by decide +kernel) ⟨Nat.le_of_ble_eq_true rfl, Nat.le_of_ble_eq_true rfl⟩) ⟨En.blind, va_recv hK hP (ci := 12) (q0 := 0) rfl rfl, fun U hU hW => ⟨rfl, En.of hU hW hP hK hD0 hN⟩⟩ rfl rfl hl.1 rfl (lv_room (Nat.le_of_ble_eq_true rfl)) dX12_amount_91 ⟨Nat.le_of_ble_eq_true rfl, Nat.le_of_ble_eq_true rfl⟩) hS (fun q _ h => hFc q h) hFc (fun r_u_17 u_17 t9 H locs ht9 hvm hw hB hz1 hk1 hS => ?_)
          have hP := fr_keep hP hk1
          have wu_17 := hw
          clear hFc hk1 hz1 hB hw
          refine lv_isub hx hb dX12_amount_94 ?_
          refine lv_topi (fun v_18 ev_18 => ?_)
          have q_19 : v_18.toInt = r_u_16.toInt - r_u_17.toInt := ow_sub ev_18 (by omega) (by omega)
          refine lv_istore (lv' := [(8, .int v_18), (7, .int r_u_15), (6, .int v_2), (0, .ref mo), (1, .int n), (2, .int n2), (3, .int n3), (4, .int n4), (5, .int n5)]) hx hb dX12_amount_95 hl (by decide) rfl (fun ls hl => ?_)
          refine lv_aload_n hx hb dX12_amount_97 rfl (lv_at hl 3 rfl) ?_
          refine lv_iload_n hx hb dX12_amount_98 rfl (lv_at hl 5 rfl) ?_
          refine lv_iload hx hb dX12_amount_99 (lv_at hl 8 rfl) ?_
          have hFc := fr_new hS hA
          refine va_calli (va_runV (As := [.int n2, .int n5]) (rest := []) ⟨hx, hb, hml, hown, ht⟩ (m_nearBy l G cy _ mo h T v nm f g n2 n5  hv hf hR hL (by omega)) (cwV 2 ht (gv k_122 k_123 k_124 k_61 k_121) rfl rfl rfl (by decide +kernel) ⟨Nat.le_of_ble_eq_true rfl, Nat.le_of_ble_eq_true rfl⟩) ⟨En.blind, va_recv hK hP (ci := 12) (q0 := 0) rfl rfl, fun U hU hW => ⟨rfl, En.of hU hW hP hK hD0 hN⟩⟩ rfl rfl hl.1 rfl (lv_room (Nat.le_of_ble_eq_true rfl)) dX12_amount_101 ⟨Nat.le_of_ble_eq_true rfl, Nat.le_of_ble_eq_true rfl⟩) hS (fun q _ h => hFc q h) hFc (fun r_u_20 u_20 t9 H locs ht9 hvm hw hB hz1 hk1 hS => ?_)
          have hP := fr_keep hP hk1
          have wu_20 := hw
          clear hFc hk1 hz1 hB hw
          refine lv_istore (lv' := [(9, .int r_u_20), (8, .int v_18), (7, .int r_u_15), (6, .int v_2), (0, .ref mo), (1, .int n), (2, .int n2), (3, .int n3), (4, .int n4), (5, .int n5)]) hx hb dX12_amount_104 hl (by decide) rfl (fun ls hl => ?_)
          refine lv_iload hx hb dX12_amount_106 (lv_at hl 1 rfl) ?_
          refine lv_if_ge (tgt := 113) hx hb dX12_amount_108 (by decide) (fun c_21 => ?_) (fun c_21 => ?_)
          · have q_22 : (0 : Int32).toInt ≤ v_18.toInt := (ow_le _ _).mp c_21
            refine lv_aload_n hx hb dX12_amount_113 rfl (lv_at hl 4 rfl) ?_
            refine mg_24 hx hb ht hown hK hP dX12_amount_114 ?_
            refine lv_iload_n hx hb dX12_amount_117 rfl (lv_at hl 5 rfl) ?_
            refine ml_24 hx hb hK hP q_4 dX12_amount_118 ?_
            refine ow_top v_5 ev_5.symm ?_
            refine lv_bipush (v := 105) hx hb dX12_amount_119 (by decide) ?_
            refine lv_icmp_ne (tgt := 136) hx hb dX12_amount_121 (by decide) (fun c_23 => ?_) (fun c_23 => ?_)
            · have q_24 : ¬ v_5.toInt = (105 : Int32).toInt := by have := (not_congr (ow_eq _ _)).mp c_23; omega
              refine lv_aload_n hx hb dX12_amount_136 rfl (lv_at hl 4 rfl) ?_
              refine lv_iload hx hb dX12_amount_137 (lv_at hl 2 rfl) ?_
              refine lv_iload_n hx hb dX12_amount_139 rfl (lv_at hl 7 rfl) ?_
              refine lv_aload_n hx hb dX12_amount_140 rfl (lv_at hl 4 rfl) ?_
              refine mg_24 hx hb ht hown hK hP dX12_amount_141 ?_
              refine lv_iload_n hx hb dX12_amount_144 rfl (lv_at hl 5 rfl) ?_
              refine ml_24 hx hb hK hP q_4 dX12_amount_145 ?_
              refine ow_top v_5 ev_5.symm ?_
              refine lv_bipush (v := 98) hx hb dX12_amount_146 (by decide) ?_
              refine lv_icmp_ne (tgt := 155) hx hb dX12_amount_148 (by decide) (fun c_25 => ?_) (fun c_25 => ?_)
              · have q_26 : ¬ v_5.toInt = (98 : Int32).toInt := by have := (not_congr (ow_eq _ _)).mp c_25; omega
                refine lv_iload hx hb dX12_amount_155 (lv_at hl 1 rfl) ?_
                have hFc := fr_new hS hA
                refine va_calli (va_runV (As := [.int r_u_15, .int n3, .int v_18]) (rest := []) ⟨hx, hb, hml, hown, ht⟩ (m_offAt l G cy _ mo h T v nm f g r_u_15 n3 v_18  hv hf hR hL (by omega) (by omega) (by omega)) (cwV 3 ht (gv k_78 k_79 k_80 k_61 k_77) rfl rfl rfl (by decide +kernel) ⟨Nat.le_of_ble_eq_true rfl, Nat.le_of_ble_eq_true rfl⟩) ⟨En.blind, va_recv hK hP (ci := 12) (q0 := 0) rfl rfl, fun U hU hW => ⟨rfl, En.of hU hW hP hK hD0 hN⟩⟩ rfl rfl hl.1 rfl (lv_room (Nat.le_of_ble_eq_true rfl)) dX12_amount_157 ⟨Nat.le_of_ble_eq_true rfl, Nat.le_of_ble_eq_true rfl⟩) hS (fun q _ h => hFc q h) hFc (fun r_u_27 u_27 t9 H locs ht9 hvm hw hB hz1 hk1 hS => ?_)
                have hP := fr_keep hP hk1
                have wu_27 := hw
                clear hFc hk1 hz1 hB hw
                refine lv_iload hx hb dX12_amount_160 (lv_at hl 0 rfl) ?_
                refine lv_icmp_gt (tgt := 169) hx hb dX12_amount_162 (by decide) (fun c_28 => ?_) (fun c_28 => ?_)
                · have q_29 : r_u_20.toInt < r_u_27.toInt := (ow_lt _ _).mp c_28
                  refine lv_iconst (v := 0) hx hb dX12_amount_169 (by decide) ?_
                  refine lv_istore (lv' := [(10, .int 0), (9, .int r_u_20), (8, .int v_18), (7, .int r_u_15), (6, .int v_2), (0, .ref mo), (1, .int n), (2, .int n2), (3, .int n3), (4, .int n4), (5, .int n5)]) hx hb dX12_amount_170 hl (by decide) rfl (fun ls hl => ?_)
                  refine lv_iload hx hb dX12_amount_172 (lv_at hl 0 rfl) ?_
                  refine lv_if_eq (tgt := 181) hx hb dX12_amount_174 (by decide) (fun _ => ?_) (fun c9 => absurd (by decide) c9)
                  refine lv_iconst (v := 0) hx hb dX12_amount_181 (by decide) ?_
                  refine W.widen (k := 0) (n := 0) (Nat.le_of_ble_eq_true rfl) (Nat.le_of_ble_eq_true rfl) ?_
                  exact W.iret (v := 0) hx hb hr (fun t ht9 hW => ⟨⟨0, (), rfl, trivial, trivial⟩, hS.F ht9⟩) hS.2.2 dX12_amount_182
                · have q_30 : r_u_27.toInt ≤ r_u_20.toInt := by have := (not_congr (ow_lt _ _)).mp c_28; omega
                  refine lv_iconst (v := 1) hx hb dX12_amount_165 (by decide) ?_
                  refine lv_goto (tgt := 170) hx hb dX12_amount_166 (by decide) ?_
                  refine lv_istore (lv' := [(10, .int 1), (9, .int r_u_20), (8, .int v_18), (7, .int r_u_15), (6, .int v_2), (0, .ref mo), (1, .int n), (2, .int n2), (3, .int n3), (4, .int n4), (5, .int n5)]) hx hb dX12_amount_170 hl (by decide) rfl (fun ls hl => ?_)
                  refine lv_iload hx hb dX12_amount_172 (lv_at hl 0 rfl) ?_
                  refine lv_if_eq (tgt := 181) hx hb dX12_amount_174 (by decide) (fun c9 => absurd c9 (by decide)) (fun _ => ?_)
                  refine lv_iconst (v := 1) hx hb dX12_amount_177 (by decide) ?_
                  refine lv_goto (tgt := 182) hx hb dX12_amount_178 (by decide) ?_
                  refine W.widen (k := 0) (n := 0) (Nat.le_of_ble_eq_true rfl) (Nat.le_of_ble_eq_true rfl) ?_
                  exact W.iret (v := 1) hx hb hr (fun t ht9 hW => ⟨⟨1, (), rfl, trivial, trivial⟩, hS.F ht9⟩) hS.2.2 dX12_amount_182
              · have q_31 : v_5.toInt = (98 : Int32).toInt := (ow_eq _ _).mp c_25
                refine lv_iconst (v := 0) hx hb dX12_amount_151 (by decide) ?_
                refine lv_goto (tgt := 157) hx hb dX12_amount_152 (by decide) ?_
                have hFc := fr_new hS hA
                refine va_calli (va_runV (As := [.int r_u_15, .int n3, .int 0]) (rest := []) ⟨hx, hb, hml, hown, ht⟩ (m_offAt l G cy _ mo h T v nm f g r_u_15 n3 (0)  hv hf hR hL (by omega) (by omega) (by omega)) (cwV 3 ht (gv k_78 k_79 k_80 k_61 k_77) rfl rfl rfl (by decide +kernel) ⟨Nat.le_of_ble_eq_true rfl, Nat.le_of_ble_eq_true rfl⟩) ⟨En.blind, va_recv hK hP (ci := 12) (q0 := 0) rfl rfl, fun U hU hW => ⟨rfl, En.of hU hW hP hK hD0 hN⟩⟩ rfl rfl hl.1 rfl (lv_room (Nat.le_of_ble_eq_true rfl)) dX12_amount_157 ⟨Nat.le_of_ble_eq_true rfl, Nat.le_of_ble_eq_true rfl⟩) hS (fun q _ h => hFc q h) hFc (fun r_u_32 u_32 t9 H locs ht9 hvm hw hB hz1 hk1 hS => ?_)
                have hP := fr_keep hP hk1
                have wu_32 := hw
                clear hFc hk1 hz1 hB hw
                refine lv_iload hx hb dX12_amount_160 (lv_at hl 0 rfl) ?_
                refine lv_icmp_gt (tgt := 169) hx hb dX12_amount_162 (by decide) (fun c_33 => ?_) (fun c_33 => ?_)
                · have q_34 : r_u_20.toInt < r_u_32.toInt := (ow_lt _ _).mp c_33
                  refine lv_iconst (v := 0) hx hb dX12_amount_169 (by decide) ?_
                  refine lv_istore (lv' := [(10, .int 0), (9, .int r_u_20), (8, .int v_18), (7, .int r_u_15), (6, .int v_2), (0, .ref mo), (1, .int n), (2, .int n2), (3, .int n3), (4, .int n4), (5, .int n5)]) hx hb dX12_amount_170 hl (by decide) rfl (fun ls hl => ?_)
                  refine lv_iload hx hb dX12_amount_172 (lv_at hl 0 rfl) ?_
                  refine lv_if_eq (tgt := 181) hx hb dX12_amount_174 (by decide) (fun _ => ?_) (fun c9 => absurd (by decide) c9)
                  refine lv_iconst (v := 0) hx hb dX12_amount_181 (by decide) ?_
                  refine W.widen (k := 0) (n := 0) (Nat.le_of_ble_eq_true rfl) (Nat.le_of_ble_eq_true rfl) ?_
                  exact W.iret (v := 0) hx hb hr (fun t ht9 hW => ⟨⟨0, (), rfl, trivial, trivial⟩, hS.F ht9⟩) hS.2.2 dX12_amount_182
                · have q_35 : r_u_32.toInt ≤ r_u_20.toInt := by have := (not_congr (ow_lt _ _)).mp c_33; omega
                  refine lv_iconst (v := 1) hx hb dX12_amount_165 (by decide) ?_
                  refine lv_goto (tgt := 170) hx hb dX12_amount_166 (by decide) ?_
                  refine lv_istore (lv' := [(10, .int 1), (9, .int r_u_20), (8, .int v_18), (7, .int r_u_15), (6, .int v_2), (0, .ref mo), (1, .int n), (2, .int n2), (3, .int n3), (4, .int n4), (5, .int n5)]) hx hb dX12_amount_170 hl (by decide) rfl (fun ls hl => ?_)
                  refine lv_iload hx hb dX12_amount_172 (lv_at hl 0 rfl) ?_
                  refine lv_if_eq (tgt := 181) hx hb dX12_amount_174 (by decide) (fun c9 => absurd c9 (by decide)) (fun _ => ?_)
                  refine lv_iconst (v := 1) hx hb dX12_amount_177 (by decide) ?_
                  refine lv_goto (tgt := 182) hx hb dX12_amount_178 (by decide) ?_
                  refine W.widen (k := 0) (n := 0) (Nat.le_of_ble_eq_true rfl) (Nat.le_of_ble_eq_true rfl) ?_
                  exact W.iret (v := 1) hx hb hr (fun t ht9 hW => ⟨⟨1, (), rfl, trivial, trivial⟩, hS.F ht9⟩) hS.2.2 dX12_amount_182
            · have q_36 : v_5.toInt = (105 : Int32).toInt := (ow_eq _ _).mp c_23
              refine lv_aload_n hx hb dX12_amount_124 rfl (lv_at hl 4 rfl) ?_
              refine lv_iload hx hb dX12_amount_125 (lv_at hl 2 rfl) ?_
              refine lv_iload_n hx hb dX12_amount_127 rfl (lv_at hl 7 rfl) ?_
              refine lv_iload hx hb dX12_amount_128 (lv_at hl 0 rfl) ?_
              have hFc := fr_new hS hA
              refine va_calli (va_runV (As := [.int r_u_15, .int n3, .int r_u_20]) (rest := []) ⟨hx, hb, hml, hown, ht⟩ (m_isWithin l G cy _ mo h T v nm f g r_u_15 n3 r_u_20  hv hf hR hL (by omega) (by omega)) (cwV 3 ht (gv k_127 k_128 k_129 k_61 k_126) rfl rfl rfl (by decide +kernel) ⟨Nat.le_of_ble_eq_true rfl, Nat.le_of_ble_eq_true rfl⟩) ⟨En.blind, va_recv hK hP (ci := 12) (q0 := 0) rfl rfl, fun U hU hW => ⟨rfl, En.of hU hW hP hK hD0 hN⟩⟩ rfl rfl hl.1 rfl (lv_room (Nat.le_of_ble_eq_true rfl)) dX12_amount_130 ⟨Nat.le_of_ble_eq_true rfl, Nat.le_of_ble_eq_true rfl⟩) hS (fun q _ h => hFc q h) hFc (fun r_u_37 u_37 t9 H locs ht9 hvm hw hB hz1 hk1 hS => ?_)
              have hP := fr_keep hP hk1
              have wu_37 := hw
              clear hFc hk1 hz1 hB hw
              refine lv_goto (tgt := 170) hx hb dX12_amount_133 (by decide) ?_
              refine lv_istore (lv' := [(10, .int r_u_37), (9, .int r_u_20), (8, .int v_18), (7, .int r_u_15), (6, .int v_2), (0, .ref mo), (1, .int n), (2, .int n2), (3, .int n3), (4, .int n4), (5, .int n5)]) hx hb dX12_amount_170 hl (by decide) rfl (fun ls hl => ?_)
              refine lv_iload hx hb dX12_amount_172 (lv_at hl 0 rfl) ?_
              refine lv_if_eq (tgt := 181) hx hb dX12_amount_174 (by decide) (fun c_38 => ?_) (fun c_38 => ?_)
              · have q_39 : r_u_37.toInt = (0 : Int32).toInt := (ow_eq _ _).mp c_38
                refine lv_iconst (v := 0) hx hb dX12_amount_181 (by decide) ?_
                refine W.widen (k := 0) (n := 0) (Nat.le_of_ble_eq_true rfl) (Nat.le_of_ble_eq_true rfl) ?_
                exact W.iret (v := 0) hx hb hr (fun t ht9 hW => ⟨⟨0, (), rfl, trivial, trivial⟩, hS.F ht9⟩) hS.2.2 dX12_amount_182
              · have q_40 : ¬ r_u_37.toInt = (0 : Int32).toInt := by have := (not_congr (ow_eq _ _)).mp c_38; omega
                refine lv_iconst (v := 1) hx hb dX12_amount_177 (by decide) ?_
                refine lv_goto (tgt := 182) hx hb dX12_amount_178 (by decide) ?_
                refine W.widen (k := 0) (n := 0) (Nat.le_of_ble_eq_true rfl) (Nat.le_of_ble_eq_true rfl) ?_
                exact W.iret (v := 1) hx hb hr (fun t ht9 hW => ⟨⟨1, (), rfl, trivial, trivial⟩, hS.F ht9⟩) hS.2.2 dX12_amount_182
          · have q_41 : v_18.toInt < (0 : Int32).toInt := by have := (not_congr (ow_le _ _)).mp c_21; omega
            refine lv_iconst (v := 0) hx hb dX12_amount_111 (by decide) ?_
            refine W.widen (k := 0) (n := 0) (Nat.le_of_ble_eq_true rfl) (Nat.le_of_ble_eq_true rfl) ?_
            exact W.iret (v := 0) hx hb hr (fun t ht9 hW => ⟨⟨0, (), rfl, trivial, trivial⟩, hS.F ht9⟩) hS.2.2 dX12_amount_112
        · have q_42 : v_5.toInt = (119 : Int32).toInt := (ow_eq _ _).mp c_13
          refine lv_iload hx hb dX12_amount_72 (lv_at hl 6 rfl) ?_
          refine W.widen (k := 0) (n := 0) (Nat.le_of_ble_eq_true rfl) (Nat.le_of_ble_eq_true rfl) ?_
          exact W.iret (v := n5) hx hb hr (fun t ht9 hW => ⟨⟨n5, (), rfl, trivial, trivial⟩, hS.F ht9⟩) hS.2.2 dX12_amount_74
      · have q_43 : v_5.toInt = (109 : Int32).toInt := (ow_eq _ _).mp c_11
        refine lv_aload_n hx hb dX12_amount_55 rfl (lv_at hl 1 rfl) ?_
        refine lv_iload_n hx hb dX12_amount_56 rfl (lv_at hl 4 rfl) ?_
        have hFc := fr_new hS hA
        refine va_calli (va_runV (As := [.int n3]) (rest := []) ⟨hx, hb, hml, hown, ht⟩ (m_many28 l G cy _ mo h T v nm f g n3  hv hf hR hL (by omega)) (cwV 1 ht (gv k_63 k_64 k_65 k_61 k_62) rfl rfl rfl (by decide +kernel) ⟨Nat.le_of_ble_eq_true rfl, Nat.le_of_ble_eq_true rfl⟩) ⟨En.blind, va_recv hK hP (ci := 12) (q0 := 0) rfl rfl, fun U hU hW => ⟨rfl, En.of hU hW hP hK hD0 hN⟩⟩ rfl rfl hl.1 rfl (lv_room (Nat.le_of_ble_eq_true rfl)) dX12_amount_57 ⟨Nat.le_of_ble_eq_true rfl, Nat.le_of_ble_eq_true rfl⟩) hS (fun q _ h => hFc q h) hFc (fun r_u_44 u_44 t9 H locs ht9 hvm hw hB hz1 hk1 hS => ?_)
        have hP := fr_keep hP hk1
        have wu_44 := hw
        clear hFc hk1 hz1 hB hw
        refine W.widen (k := 0) (n := 0) (Nat.le_of_ble_eq_true rfl) (Nat.le_of_ble_eq_true rfl) ?_
        exact W.iret (v := r_u_44) hx hb hr (fun t ht9 hW => ⟨⟨r_u_44, (), rfl, trivial, trivial⟩, hS.F ht9⟩) hS.2.2 dX12_amount_60
    · have q_45 : v_5.toInt = (110 : Int32).toInt := (ow_eq _ _).mp c_9
      refine lv_iload hx hb dX12_amount_33 (lv_at hl 5 rfl) ?_
      refine lv_if_eq (tgt := 42) hx hb dX12_amount_35 (by decide) (fun c_46 => ?_) (fun c_46 => ?_)
      · have q_47 : n4.toInt = (0 : Int32).toInt := (ow_eq _ _).mp c_46
        refine lv_iconst (v := 0) hx hb dX12_amount_42 (by decide) ?_
        refine W.widen (k := 0) (n := 0) (Nat.le_of_ble_eq_true rfl) (Nat.le_of_ble_eq_true rfl) ?_
        exact W.iret (v := 0) hx hb hr (fun t ht9 hW => ⟨⟨0, (), rfl, trivial, trivial⟩, hS.F ht9⟩) hS.2.2 dX12_amount_43
      · have q_48 : ¬ n4.toInt = (0 : Int32).toInt := by have := (not_congr (ow_eq _ _)).mp c_46; omega
        refine lv_iconst (v := 1) hx hb dX12_amount_38 (by decide) ?_
        refine lv_goto (tgt := 43) hx hb dX12_amount_39 (by decide) ?_
        refine W.widen (k := 0) (n := 0) (Nat.le_of_ble_eq_true rfl) (Nat.le_of_ble_eq_true rfl) ?_
        exact W.iret (v := 1) hx hb hr (fun t ht9 hW => ⟨⟨1, (), rfl, trivial, trivial⟩, hS.F ht9⟩) hS.2.2 dX12_amount_43
  · have q_49 : v_5.toInt = (107 : Int32).toInt := (ow_eq _ _).mp c_7
    refine lv_iload hx hb dX12_amount_19 (lv_at hl 0 rfl) ?_
    refine W.widen (k := 0) (n := 0) (Nat.le_of_ble_eq_true rfl) (Nat.le_of_ble_eq_true rfl) ?_
    exact W.iret (v := v_2) hx hb hr (fun t ht9 hW => ⟨⟨v_2, (), rfl, trivial, trivial⟩, hS.F ht9⟩) hS.2.2 dX12_amount_21
set_option maxHeartbeats 4000000 in
set_option maxRecDepth 100000 in
theorem m_comes (l : Launch) (G : va_G) (cy : Nat → ClassId) (sz : Nat) (mo : Nat) (h : Nat → Nat) (T : Int) (v : Nat → Int32) (nm : Int64) (f : Nat → Nat → Int32) (g : Nat → Nat → Int64) (n : Int32) (n2 : Int32) (n3 : Int32) (n4 : Int32)  (hv : MIv T v) (hf : MIf f) (hR : RI v f) (hL : WL v f) (h_n : 0 ≤ n.toInt ∧ n.toInt ≤ 7) (h_n2 : 0 ≤ n2.toInt ∧ n2.toInt ≤ 28) (hlk : n.toInt < (f 12 (Int32.toNatClampNeg (v 29))).toInt) : Met l yX12_comes (.code yX12_comes cX12_comes 9 (some .int) :: TBg) ({ frames := 6, cells := 0, slots := 0, locals := 384 }) (va_Pc [.ref mo, .int n, .int n2, .int n3, .int n4] (En G cy (WMs cy mo h v nm f g) sz)) (va_Qi (fun (r : Int32) (u : Nat → Int32) => True) (fun u t => Ex G (va_A (WMs cy mo h v nm f g) sz) (WMs cy mo h v nm (va_up f 28 u) g) t) (va_A (WMs cy mo h v nm f g) sz)) 0 0 (va_A (WMs cy mo h v nm f g) sz) := by
  refine Met.ofW (cc := cX12_comes) (maxL := 9) (ret := (some .int)) (by decide) rfl ?_
  intro p e s m args below meth c s₁ B hml hv9
  obtain ⟨rfl, hsz, hP, hK, hD0, hN⟩ := hv9
  have hx := B.exec
  have hb := B.bytes
  have hr := B.returns
  have hts := atoms_spec (ws := .code yX12_comes cX12_comes 9 (some .int) :: TBg) B.pre
  have ht : ∀ w ∈ TBg, w.before _ s = true := fun w h => hts w (List.mem_cons_of_mem _ h)
  have hown : s.vm.findClass RX12 = some m.cls := findClass_of_methodNamed B.named
  have hlocks := B.notSynchronized
  subst hsz
  have hD := hD0.self (sz := s.heap.size)
  generalize hAe : va_A (WMs cy mo h v nm f g) s.heap.size = A at hD ⊢
  have hA : ∀ q : Nat, s.heap.size ≤ q → A q := fun q h => by rw [← hAe]; exact Or.inr h
  have hS : va_S A s.heap s.heap [] := va_S.rf
  have hl := lv_entry ([.ref mo, .int n, .int n2, .int n3, .int n4]) (n := 9) (Nat.le_of_ble_eq_true rfl)
  rw [lg_entry_eq]
  generalize (lg_sl ([.ref mo, .int n, .int n2, .int n3, .int n4]) ++ List.replicate (9 - (lg_sl ([.ref mo, .int n, .int n2, .int n3, .int n4])).length) Slot.unset).toArray = ls at hl ⊢
  have hl : lv_has ls 9 [(0, .ref mo), (1, .int n), (2, .int n2), (3, .int n3), (4, .int n4)] := hl
  have z0 : (-1 : Int32).toInt = -1 := by decide
  have z1 : (0 : Int32).toInt = 0 := by decide
  have z2 : (1 : Int32).toInt = 1 := by decide
  have z3 : (8 : Int32).toInt = 8 := by decide
  have z4 : (126 : Int32).toInt = 126 := by decide
  have hP : va_P G vwCl (WMs cy mo h v nm (va_up f 28 (f 28)) g) s.heap := by rw [va_up_id]; exact hP
  have hD : va_D A (WMs cy mo h v nm (va_up f 28 (f 28)) g) := by rw [va_up_id]; exact hD
  have hf0 := hf
  have hR0 := hR
  have hL0 := hL
  have hf : MIf (va_up f 28 (f 28)) := MIf.any hf _
  have hR : RI v (va_up f 28 (f 28)) := RI.up 28 hR (by decide)
  have hL : WL v (va_up f 28 (f 28)) := WL.upf 28 hL (by decide)
  refine lv_bipush (v := 8) hx hb dX12_comes_0 (by decide) ?_
  refine lv_aload_n hx hb dX12_comes_2 rfl (lv_at hl 0 rfl) ?_
  refine mg_29 hx hb ht hown hK hP dX12_comes_3 ?_
  have q_1 : 0 ≤ (v 29).toInt ∧ (v 29).toInt ≤ 1 := hv 29
  refine lv_imul hx hb dX12_comes_6 ?_
  refine lv_topi (fun v_2 ev_2 => ?_)
  have q_3 : v_2.toInt = 8 * (v 29).toInt := ow_mul ev_2 (by decide) (by omega) (by omega)
  refine lv_iload_n hx hb dX12_comes_7 rfl (lv_at hl 1 rfl) ?_
  refine lv_iadd hx hb dX12_comes_8 ?_
  refine lv_topi (fun v_4 ev_4 => ?_)
  have q_5 : v_4.toInt = v_2.toInt + n.toInt := ow_add ev_4 (by omega) (by omega)
  refine lv_istore (lv' := [(5, .int v_4), (0, .ref mo), (1, .int n), (2, .int n2), (3, .int n3), (4, .int n4)]) hx hb dX12_comes_9 hl (by decide) rfl (fun ls hl => ?_)
  refine lv_iconst (v := 0) hx hb dX12_comes_11 (by decide) ?_
  refine lv_istore (lv' := [(6, .int 0), (5, .int v_4), (0, .ref mo), (1, .int n), (2, .int n2), (3, .int n3), (4, .int n4)]) hx hb dX12_comes_12 hl (by decide) rfl (fun ls hl => ?_)
  have z0c : ∀ F : Nat, (0 : Int32).toInt = hg (f 24) F 0 := fun F => by show (0 : Int32).toInt = 0; decide
  refine lv_aload_n hx hb dX12_comes_14 rfl (lv_at hl 2 rfl) ?_
  refine mg_19 hx hb ht hown hK hP dX12_comes_15 ?_
  refine lv_iload hx hb dX12_comes_18 (lv_at hl 1 rfl) ?_
  have q_6 : vp_in v_4 16 := vp_in_iff.mpr ⟨by omega, by omega⟩
  refine ml_19 hx hb hK hP q_6 dX12_comes_20 ?_
  refine lv_topi (fun v_7 ev_7 => ?_)
  have q_8 : 0 ≤ v_7.toInt ∧ v_7.toInt ≤ 1200 := by rw [ev_7]; exact MIf.rd 19 hf q_6
  have q_9 : v_7.toInt = ((f 19) (Int32.toNatClampNeg v_4)).toInt := (congrArg Int32.toInt ev_7).trans (congrArg (fun z : Nat → Int32 => (z (Int32.toNatClampNeg v_4)).toInt) (show (va_up f 28 (f 28)) 19 = (f 19) from rfl))
  refine lv_istore (lv' := [(7, .int v_7), (6, .int 0), (5, .int v_4), (0, .ref mo), (1, .int n), (2, .int n2), (3, .int n3), (4, .int n4)]) hx hb dX12_comes_21 hl (by decide) rfl (fun ls hl => ?_)
  have hb2 : Int32.toNatClampNeg (v 29) < 2 := by rw [ow_tn]; omega
  have hri := hR0 (Int32.toNatClampNeg n) (by rw [ow_tn n]; omega)
  have eix : 8 * Int32.toNatClampNeg (v 29) + Int32.toNatClampNeg n = Int32.toNatClampNeg v_4 := by rw [ow_tn, ow_tn, ow_tn]; omega
  rw [eix] at hri
  obtain ⟨hr1, hr2, hr3, hwf⟩ := hri
  refine W.widen (k := 0) (n := 0) (Nat.le_of_ble_eq_true rfl) (Nat.le_of_ble_eq_true rfl) ?_
  have lp_10 : ∀ (N : Nat) (x7_10 : Int32) (x6_10 : Int32) (p10 : Nat → Int32) (H : Heap) (locs : List Loc) (ls : Array Slot), (0 ≤ x7_10.toInt ∧ x7_10.toInt ≤ 1200) → (0 ≤ x6_10.toInt ∧ x6_10.toInt ≤ 101) → (f 19 (Int32.toNatClampNeg v_4)).toInt ≤ x7_10.toInt ∧ x7_10.toInt ≤ (f 20 (Int32.toNatClampNeg v_4)).toInt → x6_10.toInt = hg (f 24) (f 19 (Int32.toNatClampNeg v_4)).toInt.toNat (x7_10.toInt - (f 19 (Int32.toNatClampNeg v_4)).toInt).toNat → ((f 20 (Int32.toNatClampNeg v_4)).toInt - x7_10.toInt).toNat < N → va_P G vwCl (WMs cy mo h v nm (va_up f 28 p10) g) H → va_D A (WMs cy mo h v nm (va_up f 28 p10) g) → va_S A s.heap H locs → lv_has ls 9 [(7, .int x7_10), (6, .int x6_10), (5, .int v_4), (0, .ref mo), (1, .int n), (2, .int n2), (3, .int n3), (4, .int n4)] → W p l e (headSpec (.code yX12_comes cX12_comes 9 (some .int) :: TBg) ({ frames := 6, cells := 0, slots := 0, locals := 384 })).room s m ([.ref mo, .int n, .int n2, .int n3, .int n4] : List Value).toArray below meth c H locs 0 0 (MQ below (va_Qi (fun (r : Int32) (u : Nat → Int32) => True) (fun u t => Ex G A (WMs cy mo h v nm (va_up f 28 u) g) t) A) ([.ref mo, .int n, .int n2, .int n3, .int n4] : List Value).toArray s 0 0 A) (F0 m 23 ls []) := by
    intro N
    induction N with
    | zero => intro x7_10 x6_10 p10 H locs ls qf10_0 qf10_1 qf10_2 qf10_3 hm hP hD hS hl; exact absurd hm (Nat.not_lt_zero _)
    | succ N ih_10 =>
      intro x7_10 x6_10 p10 H locs ls qf10_0 qf10_1 qf10_2 qf10_3 hm hP hD hS hl
      have hf : MIf (va_up f 28 p10) := MIf.any (f := f) hf0 _
      have hR : RI v (va_up f 28 p10) := RI.up 28 (f := f) hR0 (by decide)
      have hL : WL v (va_up f 28 p10) := WL.upf 28 (f := f) hL0 (by decide)
      refine lv_iload hx hb dX12_comes_23 (lv_at hl 0 rfl) ?_
      refine lv_aload_n hx hb dX12_comes_25 rfl (lv_at hl 3 rfl) ?_
      refine mg_20 hx hb ht hown hK hP dX12_comes_26 ?_
      refine lv_iload hx hb dX12_comes_29 (lv_at hl 2 rfl) ?_
      have q_11 : vp_in v_4 16 := vp_in_iff.mpr ⟨by omega, by omega⟩
      refine ml_20 hx hb hK hP q_11 dX12_comes_31 ?_
      refine lv_topi (fun v_12 ev_12 => ?_)
      have q_13 : 0 ≤ v_12.toInt ∧ v_12.toInt ≤ 1200 := by rw [ev_12]; exact MIf.rd 20 hf q_11
      have q_14 : v_12.toInt = ((f 20) (Int32.toNatClampNeg v_4)).toInt := (congrArg Int32.toInt ev_12).trans (congrArg (fun z : Nat → Int32 => (z (Int32.toNatClampNeg v_4)).toInt) (show (va_up f 28 p10) 20 = (f 20) from rfl))
      refine lv_icmp_ge (tgt := 151) hx hb dX12_comes_32 (by decide) (fun c_15 => ?_) (fun c_15 => ?_)
      · have q_16 : v_12.toInt ≤ x7_10.toInt := (ow_le _ _).mp c_15
        refine lv_aload_n hx hb dX12_comes_151 rfl (lv_at hl 3 rfl) ?_
        refine mg_28 hx hb ht hown hK hP dX12_comes_152 ?_
        refine lv_iconst (v := 0) hx hb dX12_comes_155 (by decide) ?_
        have q_17 : vp_in 0 120 := vp_in_iff.mpr ⟨by omega, by omega⟩
        refine ml_28 hx hb hK hP q_17 dX12_comes_156 ?_
        refine lv_topi (fun v_18 ev_18 => ?_)
        refine W.widen (k := 0) (n := 0) (Nat.le_of_ble_eq_true rfl) (Nat.le_of_ble_eq_true rfl) ?_
        exact W.iret (v := v_18) hx hb hr (fun t ht9 hW => ⟨⟨v_18, p10, rfl, trivial, ⟨by rw [ht9]; exact hP, hD⟩⟩, hS.F ht9⟩) hS.2.2 dX12_comes_157
      · have q_19 : x7_10.toInt < v_12.toInt := by have := (not_congr (ow_le _ _)).mp c_15; omega
        have hgn := qf10_3
        have hkk := hwf (x7_10.toInt - (f 19 (Int32.toNatClampNeg v_4)).toInt).toNat (by omega)
        have ekk : (f 19 (Int32.toNatClampNeg v_4)).toInt.toNat + (x7_10.toInt - (f 19 (Int32.toNatClampNeg v_4)).toInt).toNat = Int32.toNatClampNeg x7_10 := by rw [ow_tn x7_10]; omega
        rw [ekk, ← hgn] at hkk
        obtain ⟨hk1, hk2, hk3, hk4⟩ := hkk
        refine lv_aload_n hx hb dX12_comes_35 rfl (lv_at hl 3 rfl) ?_
        refine mg_24 hx hb ht hown hK hP dX12_comes_36 ?_
        refine lv_iload hx hb dX12_comes_39 (lv_at hl 0 rfl) ?_
        have q_20 : vp_in x7_10 1200 := vp_in_iff.mpr ⟨by omega, by omega⟩
        refine ml_24 hx hb hK hP q_20 dX12_comes_41 ?_
        refine lv_topi (fun v_21 ev_21 => ?_)
        have q_22 : v_21.toInt = ((f 24) (Int32.toNatClampNeg x7_10)).toInt := (congrArg Int32.toInt ev_21).trans (congrArg (fun z : Nat → Int32 => (z (Int32.toNatClampNeg x7_10)).toInt) (show (va_up f 28 p10) 24 = (f 24) from rfl))
        refine lv_istore (lv' := [(8, .int v_21), (7, .int x7_10), (6, .int x6_10), (5, .int v_4), (0, .ref mo), (1, .int n), (2, .int n2), (3, .int n3), (4, .int n4)]) hx hb dX12_comes_42 hl (by decide) rfl (fun ls hl => ?_)
        refine lv_iload hx hb dX12_comes_44 (lv_at hl 0 rfl) ?_
        refine lv_bipush (v := 126) hx hb dX12_comes_46 (by decide) ?_
        refine lv_icmp_ne (tgt := 80) hx hb dX12_comes_48 (by decide) (fun c_23 => ?_) (fun c_23 => ?_)
        · have q_24 : ¬ v_21.toInt = (126 : Int32).toInt := by have := (not_congr (ow_eq _ _)).mp c_23; omega
          refine lv_iload hx hb dX12_comes_80 (lv_at hl 0 rfl) ?_
          have hFc := fr_new hS hA
          refine va_calli (va_runS (As := [.int v_21]) (rest := []) ⟨hx, hb, hml, hown, ht⟩ (m_isLetter l G cy _  v_21  ) (va_cwS 1 ht (gs k_131 k_132 k_61 k_130) rfl rfl rfl (by decide +kernel) ⟨Nat.le_of_ble_eq_true rfl, Nat.le_of_ble_eq_true rfl⟩) ⟨En.blind, fun U hU hW => ⟨rfl, En.of hU hW (va_P0 (H := _)) hK va_D0 hN⟩⟩ rfl rfl hl.1 rfl (lv_room (Nat.le_of_ble_eq_true rfl)) dX12_comes_82 ⟨Nat.le_of_ble_eq_true rfl, Nat.le_of_ble_eq_true rfl⟩) hS (fun q _ h => hFc q h) hFc (fun r_u_25 u_25 t9 H locs ht9 hvm hw hB hz1 hk1 hS => ?_)
          have hP := fr_keep hP hk1
          have wu_25 := hw
          clear hFc hk1 hz1 hB hw
          refine lv_if_eq (tgt := 112) hx hb dX12_comes_85 (by decide) (fun c_26 => ?_) (fun c_26 => ?_)
          · have q_27 : r_u_25.toInt = (0 : Int32).toInt := (ow_eq _ _).mp c_26
            obtain ⟨v_28, ev_28⟩ : ∃ y : Int32, y = x6_10 + (-1) := ⟨_, rfl⟩
            refine lv_iinc (v := v_28) (lv' := [(6, .int v_28), (8, .int v_21), (7, .int x7_10), (5, .int v_4), (0, .ref mo), (1, .int n), (2, .int n2), (3, .int n3), (4, .int n4)]) hx hb dX12_comes_112 hl (k := 2) rfl (by rw [ev_28]; rfl) (by decide) rfl (fun ls hl => ?_)
            have q_29 : v_28.toInt = x6_10.toInt + -1 := by have := ow_add ev_28 (by omega) (by omega); omega
            refine lv_aload_n hx hb dX12_comes_115 rfl (lv_at hl 4 rfl) ?_
            refine mg_28 hx hb ht hown hK hP dX12_comes_116 ?_
            refine lv_iload hx hb dX12_comes_119 (lv_at hl 0 rfl) ?_
            refine lv_iconst (v := 1) hx hb dX12_comes_121 (by decide) ?_
            refine lv_isub hx hb dX12_comes_122 ?_
            refine lv_topi (fun v_30 ev_30 => ?_)
            have q_31 : v_30.toInt = v_28.toInt - (1 : Int32).toInt := ow_sub ev_30 (by omega) (by omega)
            refine lv_iload hx hb dX12_comes_123 (lv_at hl 1 rfl) ?_
            refine lv_aload_n hx hb dX12_comes_125 rfl (lv_at hl 4 rfl) ?_
            refine mg_28 hx hb ht hown hK hP dX12_comes_126 ?_
            refine lv_iload hx hb dX12_comes_129 (lv_at hl 0 rfl) ?_
            refine lv_iconst (v := 1) hx hb dX12_comes_131 (by decide) ?_
            refine lv_isub hx hb dX12_comes_132 ?_
            refine lv_topi (fun v_32 ev_32 => ?_)
            have q_33 : v_32.toInt = v_28.toInt - (1 : Int32).toInt := ow_sub ev_32 (by omega) (by omega)
            have q_34 : vp_in v_32 120 := vp_in_iff.mpr ⟨by omega, by omega⟩
            refine ml_28 hx hb hK hP q_34 dX12_comes_133 ?_
            refine lv_topi (fun v_35 ev_35 => ?_)
            refine lv_aload_n hx hb dX12_comes_134 rfl (lv_at hl 4 rfl) ?_
            refine mg_28 hx hb ht hown hK hP dX12_comes_135 ?_
            refine lv_iload hx hb dX12_comes_138 (lv_at hl 0 rfl) ?_
            have q_36 : vp_in v_28 120 := vp_in_iff.mpr ⟨by omega, by omega⟩
            refine ml_28 hx hb hK hP q_36 dX12_comes_140 ?_
            refine lv_topi (fun v_37 ev_37 => ?_)
            have hFc := fr_new hS hA
            refine va_calli (va_runS (As := [.int v_21, .int v_35, .int v_37]) (rest := [.int v_30, .ref (h 28)]) ⟨hx, hb, hml, hown, ht⟩ (m_come l G cy _  v_21 v_35 v_37  ) (va_cwS 3 ht (gs k_134 k_135 k_61 k_133) rfl rfl rfl (by decide +kernel) ⟨Nat.le_of_ble_eq_true rfl, Nat.le_of_ble_eq_true rfl⟩) ⟨En.blind, fun U hU hW => ⟨rfl, En.of hU hW (va_P0 (H := _)) hK va_D0 hN⟩⟩ rfl rfl hl.1 rfl (lv_room (Nat.le_of_ble_eq_true rfl)) dX12_comes_141 ⟨Nat.le_of_ble_eq_true rfl, Nat.le_of_ble_eq_true rfl⟩) hS (fun q _ h => hFc q h) hFc (fun r_u_38 u_38 t9 H locs ht9 hvm hw hB hz1 hk1 hS => ?_)
            have hP := fr_keep hP hk1
            have wu_38 := hw
            clear hFc hk1 hz1 hB hw
            have q_39 : vp_in v_30 120 := vp_in_iff.mpr ⟨by omega, by omega⟩
            refine ms_28 hx hb hK hP hD hS q_39 dX12_comes_144 (fun H locs hP hD hS => ?_)
            have hf := MIf.up 28 (i := (Int32.toNatClampNeg v_30)) hf (ow_any r_u_38)
            have hP : va_P G vwCl (WMs cy mo h v nm (va_up f 28 (upd p10 (Int32.toNatClampNeg v_30) r_u_38)) g) H := by rw [bx_uu] at hP; exact hP
            have hD : va_D A (WMs cy mo h v nm (va_up f 28 (upd p10 (Int32.toNatClampNeg v_30) r_u_38)) g) := by rw [bx_uu] at hD; exact hD
            have hf : MIf (va_up f 28 (upd p10 (Int32.toNatClampNeg v_30) r_u_38)) := MIf.any hf0 _
            have hR : RI v (va_up f 28 (upd p10 (Int32.toNatClampNeg v_30) r_u_38)) := RI.up 28 hR0 (by decide)
            have hL : WL v (va_up f 28 (upd p10 (Int32.toNatClampNeg v_30) r_u_38)) := WL.upf 28 hL0 (by decide)
            obtain ⟨v_40, ev_40⟩ : ∃ y : Int32, y = x7_10 + 1 := ⟨_, rfl⟩
            refine lv_iinc (v := v_40) (lv' := [(7, .int v_40), (6, .int v_28), (8, .int v_21), (5, .int v_4), (0, .ref mo), (1, .int n), (2, .int n2), (3, .int n3), (4, .int n4)]) hx hb dX12_comes_145 hl (k := 2) rfl (by rw [ev_40]; rfl) (by decide) rfl (fun ls hl => ?_)
            have q_41 : v_40.toInt = x7_10.toInt + 1 := by have := ow_add ev_40 (by omega) (by omega); omega
            refine lv_goto (tgt := 23) hx hb dX12_comes_148 (by decide) ?_
            refine W.widen (k := 0) (n := 0) (Nat.le_of_ble_eq_true rfl) (Nat.le_of_ble_eq_true rfl) ?_
            exact ih_10 v_40 v_28 (upd p10 (Int32.toNatClampNeg v_30) r_u_38) _ _ _ (by omega) (by omega) (by omega) (by rw [show (v_40.toInt - (f 19 (Int32.toNatClampNeg v_4)).toInt).toNat = (x7_10.toInt - (f 19 (Int32.toNatClampNeg v_4)).toInt).toNat + 1 by omega]; show _ = hg (f 24) _ _ + hgd _; rw [ekk, ← hgn]; unfold hgd; split <;> (try split) <;> omega) (by omega) hP hD hS (lv_sub hl [0, 1, 3, 4, 5, 6, 7, 8] rfl)
          · have q_42 : ¬ r_u_25.toInt = (0 : Int32).toInt := by have := (not_congr (ow_eq _ _)).mp c_26; omega
            obtain ⟨hk5, hok⟩ := hk2 (by omega)
            refine lv_aload_n hx hb dX12_comes_88 rfl (lv_at hl 4 rfl) ?_
            refine mg_28 hx hb ht hown hK hP dX12_comes_89 ?_
            refine lv_iload hx hb dX12_comes_92 (lv_at hl 2 rfl) ?_
            refine lv_aload_n hx hb dX12_comes_94 rfl (lv_at hl 4 rfl) ?_
            refine lv_iload hx hb dX12_comes_95 (lv_at hl 1 rfl) ?_
            refine lv_iload_n hx hb dX12_comes_97 rfl (lv_at hl 5 rfl) ?_
            refine lv_iload_n hx hb dX12_comes_98 rfl (lv_at hl 6 rfl) ?_
            refine lv_iload_n hx hb dX12_comes_99 rfl (lv_at hl 7 rfl) ?_
            refine lv_iload hx hb dX12_comes_100 (lv_at hl 8 rfl) ?_
            have hFc := fr_new hS hA
            refine va_calli (va_runV (As := [.int x7_10, .int n, .int n2, .int n3, .int n4]) (rest := [.int x6_10, .ref (h 28)]) ⟨hx, hb, hml, hown, ht⟩ (m_amount l G cy _ mo h T v nm (va_up f 28 p10) g x7_10 n n2 n3 n4  hv hf hR hL (by omega) (by omega) (by omega) hok) (cwV 5 ht (gv k_137 k_138 k_139 k_61 k_136) rfl rfl rfl (by decide +kernel) ⟨Nat.le_of_ble_eq_true rfl, Nat.le_of_ble_eq_true rfl⟩) ⟨En.blind, va_recv hK hP (ci := 12) (q0 := 0) rfl rfl, fun U hU hW => ⟨rfl, En.of hU hW hP hK hD hN⟩⟩ rfl rfl hl.1 rfl (lv_room (Nat.le_of_ble_eq_true rfl)) dX12_comes_102 ⟨Nat.le_of_ble_eq_true rfl, Nat.le_of_ble_eq_true rfl⟩) hS (fun q _ h => hFc q h) hFc (fun r_u_43 u_43 t9 H locs ht9 hvm hw hB hz1 hk1 hS => ?_)
            have hP := fr_keep hP hk1
            have wu_43 := hw
            clear hFc hk1 hz1 hB hw
            have q_44 : vp_in x6_10 120 := vp_in_iff.mpr ⟨by omega, by omega⟩
            refine ms_28 hx hb hK hP hD hS q_44 dX12_comes_105 (fun H locs hP hD hS => ?_)
            have hf := MIf.up 28 (i := (Int32.toNatClampNeg x6_10)) hf (ow_any r_u_43)
            have hP : va_P G vwCl (WMs cy mo h v nm (va_up f 28 (upd p10 (Int32.toNatClampNeg x6_10) r_u_43)) g) H := by rw [bx_uu] at hP; exact hP
            have hD : va_D A (WMs cy mo h v nm (va_up f 28 (upd p10 (Int32.toNatClampNeg x6_10) r_u_43)) g) := by rw [bx_uu] at hD; exact hD
            have hf : MIf (va_up f 28 (upd p10 (Int32.toNatClampNeg x6_10) r_u_43)) := MIf.any hf0 _
            have hR : RI v (va_up f 28 (upd p10 (Int32.toNatClampNeg x6_10) r_u_43)) := RI.up 28 hR0 (by decide)
            have hL : WL v (va_up f 28 (upd p10 (Int32.toNatClampNeg x6_10) r_u_43)) := WL.upf 28 hL0 (by decide)
            obtain ⟨v_45, ev_45⟩ : ∃ y : Int32, y = x6_10 + 1 := ⟨_, rfl⟩
            refine lv_iinc (v := v_45) (lv' := [(6, .int v_45), (8, .int v_21), (7, .int x7_10), (5, .int v_4), (0, .ref mo), (1, .int n), (2, .int n2), (3, .int n3), (4, .int n4)]) hx hb dX12_comes_106 hl (k := 2) rfl (by rw [ev_45]; rfl) (by decide) rfl (fun ls hl => ?_)
            have q_46 : v_45.toInt = x6_10.toInt + 1 := by have := ow_add ev_45 (by omega) (by omega); omega
            refine lv_goto (tgt := 145) hx hb dX12_comes_109 (by decide) ?_
            obtain ⟨v_47, ev_47⟩ : ∃ y : Int32, y = x7_10 + 1 := ⟨_, rfl⟩
            refine lv_iinc (v := v_47) (lv' := [(7, .int v_47), (6, .int v_45), (8, .int v_21), (5, .int v_4), (0, .ref mo), (1, .int n), (2, .int n2), (3, .int n3), (4, .int n4)]) hx hb dX12_comes_145 hl (k := 2) rfl (by rw [ev_47]; rfl) (by decide) rfl (fun ls hl => ?_)
            have q_48 : v_47.toInt = x7_10.toInt + 1 := by have := ow_add ev_47 (by omega) (by omega); omega
            refine lv_goto (tgt := 23) hx hb dX12_comes_148 (by decide) ?_
            refine W.widen (k := 0) (n := 0) (Nat.le_of_ble_eq_true rfl) (Nat.le_of_ble_eq_true rfl) ?_
            exact ih_10 v_47 v_45 (upd p10 (Int32.toNatClampNeg x6_10) r_u_43) _ _ _ (by omega) (by omega) (by omega) (by rw [show (v_47.toInt - (f 19 (Int32.toNatClampNeg v_4)).toInt).toNat = (x7_10.toInt - (f 19 (Int32.toNatClampNeg v_4)).toInt).toNat + 1 by omega]; show _ = hg (f 24) _ _ + hgd _; rw [ekk, ← hgn]; unfold hgd; split <;> (try split) <;> omega) (by omega) hP hD hS (lv_sub hl [0, 1, 3, 4, 5, 6, 7, 8] rfl)
        · have q_49 : v_21.toInt = (126 : Int32).toInt := (ow_eq _ _).mp c_23
          refine lv_aload_n hx hb dX12_comes_51 rfl (lv_at hl 4 rfl) ?_
          refine mg_28 hx hb ht hown hK hP dX12_comes_52 ?_
          refine lv_iload hx hb dX12_comes_55 (lv_at hl 2 rfl) ?_
          refine lv_iconst (v := 1) hx hb dX12_comes_57 (by decide) ?_
          refine lv_isub hx hb dX12_comes_58 ?_
          refine lv_topi (fun v_50 ev_50 => ?_)
          have q_51 : v_50.toInt = x6_10.toInt - (1 : Int32).toInt := ow_sub ev_50 (by omega) (by omega)
          refine lv_aload_n hx hb dX12_comes_59 rfl (lv_at hl 4 rfl) ?_
          refine mg_28 hx hb ht hown hK hP dX12_comes_60 ?_
          refine lv_iload hx hb dX12_comes_63 (lv_at hl 2 rfl) ?_
          refine lv_iconst (v := 1) hx hb dX12_comes_65 (by decide) ?_
          refine lv_isub hx hb dX12_comes_66 ?_
          refine lv_topi (fun v_52 ev_52 => ?_)
          have q_53 : v_52.toInt = x6_10.toInt - (1 : Int32).toInt := ow_sub ev_52 (by omega) (by omega)
          have q_54 : vp_in v_52 120 := vp_in_iff.mpr ⟨by omega, by omega⟩
          refine ml_28 hx hb hK hP q_54 dX12_comes_67 ?_
          refine lv_topi (fun v_55 ev_55 => ?_)
          refine lv_if_ne (tgt := 75) hx hb dX12_comes_68 (by decide) (fun c_56 => ?_) (fun c_56 => ?_)
          · have q_57 : ¬ v_55.toInt = (0 : Int32).toInt := by have := (not_congr (ow_eq _ _)).mp c_56; omega
            refine lv_iconst (v := 0) hx hb dX12_comes_75 (by decide) ?_
            have q_58 : vp_in v_50 120 := vp_in_iff.mpr ⟨by omega, by omega⟩
            refine ms_28 hx hb hK hP hD hS q_58 dX12_comes_76 (fun H locs hP hD hS => ?_)
            have hf := MIf.up 28 (i := (Int32.toNatClampNeg v_50)) hf (ow_any (0 : Int32))
            have hP : va_P G vwCl (WMs cy mo h v nm (va_up f 28 (upd p10 (Int32.toNatClampNeg v_50) 0)) g) H := by rw [bx_uu] at hP; exact hP
            have hD : va_D A (WMs cy mo h v nm (va_up f 28 (upd p10 (Int32.toNatClampNeg v_50) 0)) g) := by rw [bx_uu] at hD; exact hD
            have hf : MIf (va_up f 28 (upd p10 (Int32.toNatClampNeg v_50) 0)) := MIf.any hf0 _
            have hR : RI v (va_up f 28 (upd p10 (Int32.toNatClampNeg v_50) 0)) := RI.up 28 hR0 (by decide)
            have hL : WL v (va_up f 28 (upd p10 (Int32.toNatClampNeg v_50) 0)) := WL.upf 28 hL0 (by decide)
            refine lv_goto (tgt := 145) hx hb dX12_comes_77 (by decide) ?_
            obtain ⟨v_59, ev_59⟩ : ∃ y : Int32, y = x7_10 + 1 := ⟨_, rfl⟩
            refine lv_iinc (v := v_59) (lv' := [(7, .int v_59), (8, .int v_21), (6, .int x6_10), (5, .int v_4), (0, .ref mo), (1, .int n), (2, .int n2), (3, .int n3), (4, .int n4)]) hx hb dX12_comes_145 hl (k := 1) rfl (by rw [ev_59]; rfl) (by decide) rfl (fun ls hl => ?_)
            have q_60 : v_59.toInt = x7_10.toInt + 1 := by have := ow_add ev_59 (by omega) (by omega); omega
            refine lv_goto (tgt := 23) hx hb dX12_comes_148 (by decide) ?_
            refine W.widen (k := 0) (n := 0) (Nat.le_of_ble_eq_true rfl) (Nat.le_of_ble_eq_true rfl) ?_
            exact ih_10 v_59 x6_10 (upd p10 (Int32.toNatClampNeg v_50) 0) _ _ _ (by omega) (by omega) (by omega) (by rw [show (v_59.toInt - (f 19 (Int32.toNatClampNeg v_4)).toInt).toNat = (x7_10.toInt - (f 19 (Int32.toNatClampNeg v_4)).toInt).toNat + 1 by omega]; show _ = hg (f 24) _ _ + hgd _; rw [ekk, ← hgn]; unfold hgd; split <;> (try split) <;> omega) (by omega) hP hD hS (lv_sub hl [0, 2, 3, 4, 5, 6, 7, 8] rfl)
          · have q_61 : v_55.toInt = (0 : Int32).toInt := (ow_eq _ _).mp c_56
            refine lv_iconst (v := 1) hx hb dX12_comes_71 (by decide) ?_
            refine lv_goto (tgt := 76) hx hb dX12_comes_72 (by decide) ?_
            have q_62 : vp_in v_50 120 := vp_in_iff.mpr ⟨by omega, by omega⟩
            refine ms_28 hx hb hK hP hD hS q_62 dX12_comes_76 (fun H locs hP hD hS => ?_)
            have hf := MIf.up 28 (i := (Int32.toNatClampNeg v_50)) hf (ow_any (1 : Int32))
            have hP : va_P G vwCl (WMs cy mo h v nm (va_up f 28 (upd p10 (Int32.toNatClampNeg v_50) 1)) g) H := by rw [bx_uu] at hP; exact hP
            have hD : va_D A (WMs cy mo h v nm (va_up f 28 (upd p10 (Int32.toNatClampNeg v_50) 1)) g) := by rw [bx_uu] at hD; exact hD
            have hf : MIf (va_up f 28 (upd p10 (Int32.toNatClampNeg v_50) 1)) := MIf.any hf0 _
            have hR : RI v (va_up f 28 (upd p10 (Int32.toNatClampNeg v_50) 1)) := RI.up 28 hR0 (by decide)
            have hL : WL v (va_up f 28 (upd p10 (Int32.toNatClampNeg v_50) 1)) := WL.upf 28 hL0 (by decide)
            refine lv_goto (tgt := 145) hx hb dX12_comes_77 (by decide) ?_
            obtain ⟨v_63, ev_63⟩ : ∃ y : Int32, y = x7_10 + 1 := ⟨_, rfl⟩
            refine lv_iinc (v := v_63) (lv' := [(7, .int v_63), (8, .int v_21), (6, .int x6_10), (5, .int v_4), (0, .ref mo), (1, .int n), (2, .int n2), (3, .int n3), (4, .int n4)]) hx hb dX12_comes_145 hl (k := 1) rfl (by rw [ev_63]; rfl) (by decide) rfl (fun ls hl => ?_)
            have q_64 : v_63.toInt = x7_10.toInt + 1 := by have := ow_add ev_63 (by omega) (by omega); omega
            refine lv_goto (tgt := 23) hx hb dX12_comes_148 (by decide) ?_
            refine W.widen (k := 0) (n := 0) (Nat.le_of_ble_eq_true rfl) (Nat.le_of_ble_eq_true rfl) ?_
            exact ih_10 v_63 x6_10 (upd p10 (Int32.toNatClampNeg v_50) 1) _ _ _ (by omega) (by omega) (by omega) (by rw [show (v_63.toInt - (f 19 (Int32.toNatClampNeg v_4)).toInt).toNat = (x7_10.toInt - (f 19 (Int32.toNatClampNeg v_4)).toInt).toNat + 1 by omega]; show _ = hg (f 24) _ _ + hgd _; rw [ekk, ← hgn]; unfold hgd; split <;> (try split) <;> omega) (by omega) hP hD hS (lv_sub hl [0, 2, 3, 4, 5, 6, 7, 8] rfl)
  exact lp_10 _ v_7 (0) (f 28) _ _ _ (by omega) (by omega) (by omega) (by rw [show (v_7.toInt - (f 19 (Int32.toNatClampNeg v_4)).toInt).toNat = 0 by omega]; exact z0c _) (Nat.lt_succ_self _) hP hD hS (lv_sub hl [0, 1, 2, 3, 4, 5, 6, 7] rfl)
set_option maxHeartbeats 4000000 in
set_option maxRecDepth 100000 in
theorem m_opens (l : Launch) (G : va_G) (cy : Nat → ClassId) (sz : Nat) (mo : Nat) (h : Nat → Nat) (T : Int) (v : Nat → Int32) (nm : Int64) (f : Nat → Nat → Int32) (g : Nat → Nat → Int64) (n : Int32) (n2 : Int32) (n3 : Int32) (n4 : Int32)  (hv : MIv T v) (hf : MIf f) (hR : RI v f) (hL : WL v f) (h_n : 0 ≤ n.toInt ∧ n.toInt ≤ 7) (h_n2 : 0 ≤ n2.toInt ∧ n2.toInt ≤ 28) (hlk : n.toInt < (f 12 (Int32.toNatClampNeg (v 29))).toInt) : Met l yX12_opens (.code yX12_opens cX12_opens 5 (some .boolean) :: TBg) ({ frames := 7, cells := 0, slots := 0, locals := 448 }) (va_Pc [.ref mo, .int n, .int n2, .int n3, .int n4] (En G cy (WMs cy mo h v nm f g) sz)) (va_Qi (fun (r : Int32) (u : Nat → Int32) => (r.toInt = 0 ∨ r.toInt = 1)) (fun u t => Ex G (va_A (WMs cy mo h v nm f g) sz) (WMs cy mo h v nm (va_up f 28 u) g) t) (va_A (WMs cy mo h v nm f g) sz)) 0 0 (va_A (WMs cy mo h v nm f g) sz) := by
  refine Met.ofW (cc := cX12_opens) (maxL := 5) (ret := (some .boolean)) (by decide) rfl ?_
  intro p e s m args below meth c s₁ B hml hv9
  obtain ⟨rfl, hsz, hP, hK, hD0, hN⟩ := hv9
  have hx := B.exec
  have hb := B.bytes
  have hr := B.returns
  have hts := atoms_spec (ws := .code yX12_opens cX12_opens 5 (some .boolean) :: TBg) B.pre
  have ht : ∀ w ∈ TBg, w.before _ s = true := fun w h => hts w (List.mem_cons_of_mem _ h)
  have hown : s.vm.findClass RX12 = some m.cls := findClass_of_methodNamed B.named
  have hlocks := B.notSynchronized
  subst hsz
  have hD := hD0.self (sz := s.heap.size)
  generalize hAe : va_A (WMs cy mo h v nm f g) s.heap.size = A at hD ⊢
  have hA : ∀ q : Nat, s.heap.size ≤ q → A q := fun q h => by rw [← hAe]; exact Or.inr h
  have hS : va_S A s.heap s.heap [] := va_S.rf
  have hl := lv_entry ([.ref mo, .int n, .int n2, .int n3, .int n4]) (n := 5) (Nat.le_of_ble_eq_true rfl)
  rw [lg_entry_eq]
  generalize (lg_sl ([.ref mo, .int n, .int n2, .int n3, .int n4]) ++ List.replicate (5 - (lg_sl ([.ref mo, .int n, .int n2, .int n3, .int n4])).length) Slot.unset).toArray = ls at hl ⊢
  have hl : lv_has ls 5 [(0, .ref mo), (1, .int n), (2, .int n2), (3, .int n3), (4, .int n4)] := hl
  have z0 : (0 : Int32).toInt = 0 := by decide
  have z1 : (1 : Int32).toInt = 1 := by decide
  have hP : va_P G vwCl (WMs cy mo h v nm (va_up f 28 (f 28)) g) s.heap := by rw [va_up_id]; exact hP
  have hD : va_D A (WMs cy mo h v nm (va_up f 28 (f 28)) g) := by rw [va_up_id]; exact hD
  have hf0 := hf
  have hR0 := hR
  have hL0 := hL
  have hf : MIf (va_up f 28 (f 28)) := MIf.any hf _
  have hR : RI v (va_up f 28 (f 28)) := RI.up 28 hR (by decide)
  have hL : WL v (va_up f 28 (f 28)) := WL.upf 28 hL (by decide)
  refine lv_aload_n hx hb dX12_opens_0 rfl (lv_at hl 0 rfl) ?_
  refine lv_iload_n hx hb dX12_opens_1 rfl (lv_at hl 2 rfl) ?_
  have hFc := fr_new hS hA
  refine va_calli (va_runV (As := [.int n2]) (rest := []) ⟨hx, hb, hml, hown, ht⟩ (m_many28 l G cy _ mo h T v nm (va_up f 28 (f 28)) g n2  hv hf hR hL (by omega)) (cwV 1 ht (gv k_63 k_64 k_65 k_61 k_62) rfl rfl rfl (by decide +kernel) ⟨Nat.le_of_ble_eq_true rfl, Nat.le_of_ble_eq_true rfl⟩) ⟨En.blind, va_recv hK hP (ci := 12) (q0 := 0) rfl rfl, fun U hU hW => ⟨rfl, En.of hU hW hP hK hD hN⟩⟩ rfl rfl hl.1 rfl (lv_room (Nat.le_of_ble_eq_true rfl)) dX12_opens_2 ⟨Nat.le_of_ble_eq_true rfl, Nat.le_of_ble_eq_true rfl⟩) hS (fun q _ h => hFc q h) hFc (fun r_u_1 u_1 t9 H locs ht9 hvm hw hB hz1 hk1 hS => ?_)
  have hP := fr_keep hP hk1
  have wu_1 := hw
  clear hFc hk1 hz1 hB hw
  refine lv_if_le (tgt := 24) hx hb dX12_opens_5 (by decide) (fun c_2 => ?_) (fun c_2 => ?_)
  · have q_3 : r_u_1.toInt ≤ (0 : Int32).toInt := (ow_le _ _).mp c_2
    refine lv_iconst (v := 0) hx hb dX12_opens_24 (by decide) ?_
    refine W.widen (k := 0) (n := 0) (Nat.le_of_ble_eq_true rfl) (Nat.le_of_ble_eq_true rfl) ?_
    exact W.zret (v := 0) hx hb hr rfl (fun t ht9 hW => ⟨⟨0, (f 28), rfl, (by omega), ⟨by rw [ht9]; exact hP, hD⟩⟩, hS.F ht9⟩) hS.2.2 dX12_opens_25
  · have q_4 : (0 : Int32).toInt < r_u_1.toInt := by have := (not_congr (ow_le _ _)).mp c_2; omega
    refine lv_aload_n hx hb dX12_opens_8 rfl (lv_at hl 0 rfl) ?_
    refine lv_iload_n hx hb dX12_opens_9 rfl (lv_at hl 1 rfl) ?_
    refine lv_iload_n hx hb dX12_opens_10 rfl (lv_at hl 2 rfl) ?_
    refine lv_iload_n hx hb dX12_opens_11 rfl (lv_at hl 3 rfl) ?_
    refine lv_iload hx hb dX12_opens_12 (lv_at hl 4 rfl) ?_
    have hFc := fr_free hD hS hA
    refine va_calli (va_runV (As := [.int n, .int n2, .int n3, .int n4]) (rest := []) ⟨hx, hb, hml, hown, ht⟩ (m_comes l G cy _ mo h T v nm (va_up f 28 (f 28)) g n n2 n3 n4  hv hf hR hL (by omega) (by omega) (show n.toInt < (f 12 (Int32.toNatClampNeg (v 29))).toInt from by omega)) (cwV 4 ht (gv k_141 k_142 k_143 k_61 k_140) rfl rfl rfl (by decide +kernel) ⟨Nat.le_of_ble_eq_true rfl, Nat.le_of_ble_eq_true rfl⟩) ⟨En.blind, va_recv hK hP (ci := 12) (q0 := 0) rfl rfl, fun U hU hW => ⟨rfl, En.of hU hW hP hK hD hN⟩⟩ rfl rfl hl.1 rfl (lv_room (Nat.le_of_ble_eq_true rfl)) dX12_opens_14 ⟨Nat.le_of_ble_eq_true rfl, Nat.le_of_ble_eq_true rfl⟩) hS (fun q _ h => hFc q h) hFc (fun r_u_5 u_5 t9 H locs ht9 hvm hw hB hz1 hk1 hS => ?_)
    obtain ⟨hP1, hD1⟩ := hB
    rw [ht9] at hP1
    have wu_5 := hw
    have hP : va_P G vwCl (WMs cy mo h v nm (va_up f 28 u_5) g) H := by rw [bx_uu] at hP1; exact hP1
    have hD : va_D A (WMs cy mo h v nm (va_up f 28 u_5) g) := by rw [bx_uu] at hD1; exact hD1.weaken (fun _ _ _ h => hFc _ h)
    have hf : MIf (va_up f 28 u_5) := MIf.any hf0 _
    have hR : RI v (va_up f 28 u_5) := RI.up 28 hR0 (by decide)
    have hL : WL v (va_up f 28 u_5) := WL.upf 28 hL0 (by decide)
    clear hFc hk1 hz1 hP1 hD1 hw
    refine lv_if_eq (tgt := 24) hx hb dX12_opens_17 (by decide) (fun c_6 => ?_) (fun c_6 => ?_)
    · have q_7 : r_u_5.toInt = (0 : Int32).toInt := (ow_eq _ _).mp c_6
      refine lv_iconst (v := 0) hx hb dX12_opens_24 (by decide) ?_
      refine W.widen (k := 0) (n := 0) (Nat.le_of_ble_eq_true rfl) (Nat.le_of_ble_eq_true rfl) ?_
      exact W.zret (v := 0) hx hb hr rfl (fun t ht9 hW => ⟨⟨0, u_5, rfl, (by omega), ⟨by rw [ht9]; exact hP, hD⟩⟩, hS.F ht9⟩) hS.2.2 dX12_opens_25
    · have q_8 : ¬ r_u_5.toInt = (0 : Int32).toInt := by have := (not_congr (ow_eq _ _)).mp c_6; omega
      refine lv_iconst (v := 1) hx hb dX12_opens_20 (by decide) ?_
      refine lv_goto (tgt := 25) hx hb dX12_opens_21 (by decide) ?_
      refine W.widen (k := 0) (n := 0) (Nat.le_of_ble_eq_true rfl) (Nat.le_of_ble_eq_true rfl) ?_
      exact W.zret (v := 1) hx hb hr rfl (fun t ht9 hW => ⟨⟨1, u_5, rfl, (by omega), ⟨by rw [ht9]; exact hP, hD⟩⟩, hS.F ht9⟩) hS.2.2 dX12_opens_25
