theorem k_283 : (Cond.code yX12_fresh cX12_fresh 4 (some .long)) ∈ TBg := tb_mem 1270 (by decide +kernel) (by decide +kernel)
theorem k_284 : (Cond.methodLink RX12 273 yX12_fresh) ∈ TBg := tb_mem 1267 (by decide +kernel) (by decide +kernel)
theorem k_285 : (Cond.instanceMethod yX12_fresh) ∈ TBg := tb_mem 1269 (by decide +kernel) (by decide +kernel)
theorem k_286 : (Cond.selects RX12 yX12_fresh yX12_fresh) ∈ TBg := tb_mem 43 (by decide +kernel) (by decide +kernel)
theorem k_287 : (Cond.code yX12_numeral cX12_numeral 4 (some .int)) ∈ TBg := tb_mem 1278 (by decide +kernel) (by decide +kernel)
theorem k_288 : (Cond.methodLink RX12 277 yX12_numeral) ∈ TBg := tb_mem 1275 (by decide +kernel) (by decide +kernel)
theorem k_289 : (Cond.instanceMethod yX12_numeral) ∈ TBg := tb_mem 1277 (by decide +kernel) (by decide +kernel)
theorem k_290 : (Cond.selects RX12 yX12_numeral yX12_numeral) ∈ TBg := tb_mem 45 (by decide +kernel) (by decide +kernel)
theorem dX12_isFull_0 : decode cX12_isFull 0 = .ok (.aload_n 0, 1) := by decide +kernel
theorem dX12_isFull_1 : decode cX12_isFull 1 = .ok (.ldc2_w 140, 3) := by decide +kernel
theorem dX12_isFull_4 : decode cX12_isFull 4 = .ok (.invokevirtual 243, 3) := by decide +kernel
theorem dX12_isFull_7 : decode cX12_isFull 7 = .ok (.ifCond .eq 23, 3) := by decide +kernel
theorem dX12_isFull_30 : decode cX12_isFull 30 = .ok (.aload_n 0, 1) := by decide +kernel
theorem dX12_isFull_31 : decode cX12_isFull 31 = .ok (.ldc2_w 144, 3) := by decide +kernel
theorem dX12_isFull_34 : decode cX12_isFull 34 = .ok (.invokevirtual 243, 3) := by decide +kernel
theorem dX12_isFull_37 : decode cX12_isFull 37 = .ok (.ifCond .eq 23, 3) := by decide +kernel
theorem dX12_isFull_60 : decode cX12_isFull 60 = .ok (.aload_n 0, 1) := by decide +kernel
theorem dX12_isFull_61 : decode cX12_isFull 61 = .ok (.ldc2_w 150, 3) := by decide +kernel
theorem dX12_isFull_64 : decode cX12_isFull 64 = .ok (.invokevirtual 243, 3) := by decide +kernel
theorem dX12_isFull_67 : decode cX12_isFull 67 = .ok (.ifCond .eq 15, 3) := by decide +kernel
theorem dX12_isFull_82 : decode cX12_isFull 82 = .ok (.iconst 1, 1) := by decide +kernel
theorem dX12_isFull_83 : decode cX12_isFull 83 = .ok (.goto 4, 3) := by decide +kernel
theorem dX12_isFull_87 : decode cX12_isFull 87 = .ok (.ireturn, 1) := by decide +kernel
theorem dX12_isFull_70 : decode cX12_isFull 70 = .ok (.aload_n 0, 1) := by decide +kernel
theorem dX12_isFull_71 : decode cX12_isFull 71 = .ok (.getfield 51, 3) := by decide +kernel
theorem dX12_isFull_74 : decode cX12_isFull 74 = .ok (.aload_n 0, 1) := by decide +kernel
theorem dX12_isFull_75 : decode cX12_isFull 75 = .ok (.getfield 218, 3) := by decide +kernel
theorem dX12_isFull_78 : decode cX12_isFull 78 = .ok (.baload, 1) := by decide +kernel
theorem dX12_isFull_79 : decode cX12_isFull 79 = .ok (.ifCond .eq 7, 3) := by decide +kernel
theorem dX12_isFull_86 : decode cX12_isFull 86 = .ok (.iconst 0, 1) := by decide +kernel
theorem dX12_isFull_40 : decode cX12_isFull 40 = .ok (.aload_n 0, 1) := by decide +kernel
theorem dX12_isFull_41 : decode cX12_isFull 41 = .ok (.getfield 24, 3) := by decide +kernel
theorem dX12_isFull_44 : decode cX12_isFull 44 = .ok (.aload_n 0, 1) := by decide +kernel
theorem dX12_isFull_45 : decode cX12_isFull 45 = .ok (.getfield 218, 3) := by decide +kernel
theorem dX12_isFull_48 : decode cX12_isFull 48 = .ok (.iaload, 1) := by decide +kernel
theorem dX12_isFull_49 : decode cX12_isFull 49 = .ok (.bipush 8, 2) := by decide +kernel
theorem dX12_isFull_51 : decode cX12_isFull 51 = .ok (.if_icmp .ne 7, 3) := by decide +kernel
theorem dX12_isFull_58 : decode cX12_isFull 58 = .ok (.iconst 0, 1) := by decide +kernel
theorem dX12_isFull_59 : decode cX12_isFull 59 = .ok (.ireturn, 1) := by decide +kernel
theorem dX12_isFull_54 : decode cX12_isFull 54 = .ok (.iconst 1, 1) := by decide +kernel
theorem dX12_isFull_55 : decode cX12_isFull 55 = .ok (.goto 4, 3) := by decide +kernel
theorem dX12_isFull_10 : decode cX12_isFull 10 = .ok (.aload_n 0, 1) := by decide +kernel
theorem dX12_isFull_11 : decode cX12_isFull 11 = .ok (.getfield 20, 3) := by decide +kernel
theorem dX12_isFull_14 : decode cX12_isFull 14 = .ok (.aload_n 0, 1) := by decide +kernel
theorem dX12_isFull_15 : decode cX12_isFull 15 = .ok (.getfield 218, 3) := by decide +kernel
theorem dX12_isFull_18 : decode cX12_isFull 18 = .ok (.iaload, 1) := by decide +kernel
theorem dX12_isFull_19 : decode cX12_isFull 19 = .ok (.bipush 14, 2) := by decide +kernel
theorem dX12_isFull_21 : decode cX12_isFull 21 = .ok (.if_icmp .ne 7, 3) := by decide +kernel
theorem dX12_isFull_28 : decode cX12_isFull 28 = .ok (.iconst 0, 1) := by decide +kernel
theorem dX12_isFull_29 : decode cX12_isFull 29 = .ok (.ireturn, 1) := by decide +kernel
theorem dX12_isFull_24 : decode cX12_isFull 24 = .ok (.iconst 1, 1) := by decide +kernel
theorem dX12_isFull_25 : decode cX12_isFull 25 = .ok (.goto 4, 3) := by decide +kernel
theorem dX12_readTune_0 : decode cX12_readTune 0 = .ok (.bipush 14, 2) := by decide +kernel
theorem dX12_readTune_2 : decode cX12_readTune 2 = .ok (.aload_n 0, 1) := by decide +kernel
theorem dX12_readTune_3 : decode cX12_readTune 3 = .ok (.getfield 218, 3) := by decide +kernel
theorem dX12_readTune_6 : decode cX12_readTune 6 = .ok (.imul, 1) := by decide +kernel
theorem dX12_readTune_7 : decode cX12_readTune 7 = .ok (.aload_n 0, 1) := by decide +kernel
theorem dX12_readTune_8 : decode cX12_readTune 8 = .ok (.getfield 20, 3) := by decide +kernel
theorem dX12_readTune_11 : decode cX12_readTune 11 = .ok (.aload_n 0, 1) := by decide +kernel
theorem dX12_readTune_12 : decode cX12_readTune 12 = .ok (.getfield 218, 3) := by decide +kernel
theorem dX12_readTune_15 : decode cX12_readTune 15 = .ok (.iaload, 1) := by decide +kernel
theorem dX12_readTune_16 : decode cX12_readTune 16 = .ok (.iadd, 1) := by decide +kernel
theorem dX12_readTune_17 : decode cX12_readTune 17 = .ok (.istore_n 1, 1) := by decide +kernel
theorem dX12_readTune_18 : decode cX12_readTune 18 = .ok (.aload_n 0, 1) := by decide +kernel
theorem dX12_readTune_19 : decode cX12_readTune 19 = .ok (.aload_n 0, 1) := by decide +kernel
theorem dX12_readTune_20 : decode cX12_readTune 20 = .ok (.invokevirtual 269, 3) := by decide +kernel
theorem dX12_readTune_31 : decode cX12_readTune 31 = .ok (.invokevirtual 273, 3) := by decide +kernel
theorem dX12_readTune_34 : decode cX12_readTune 34 = .ok (.lstore_n 2, 1) := by decide +kernel
theorem dX12_readTune_35 : decode cX12_readTune 35 = .ok (.aload_n 0, 1) := by decide +kernel
theorem dX12_readTune_36 : decode cX12_readTune 36 = .ok (.aload_n 0, 1) := by decide +kernel
theorem dX12_readTune_37 : decode cX12_readTune 37 = .ok (.ldc2_w 142, 3) := by decide +kernel
theorem dX12_readTune_40 : decode cX12_readTune 40 = .ok (.invokevirtual 243, 3) := by decide +kernel
theorem dX12_readTune_43 : decode cX12_readTune 43 = .ok (.invokevirtual 261, 3) := by decide +kernel
theorem dX12_readTune_46 : decode cX12_readTune 46 = .ok (.aload_n 0, 1) := by decide +kernel
theorem dX12_readTune_47 : decode cX12_readTune 47 = .ok (.getfield 33, 3) := by decide +kernel
theorem dX12_readTune_50 : decode cX12_readTune 50 = .ok (.iload_n 1, 1) := by decide +kernel
theorem dX12_readTune_51 : decode cX12_readTune 51 = .ok (.iconst 0, 1) := by decide +kernel
theorem dX12_readTune_52 : decode cX12_readTune 52 = .ok (.iastore, 1) := by decide +kernel
theorem dX12_readTune_53 : decode cX12_readTune 53 = .ok (.aload_n 0, 1) := by decide +kernel
theorem dX12_readTune_54 : decode cX12_readTune 54 = .ok (.invokevirtual 208, 3) := by decide +kernel
theorem dX12_readTune_57 : decode cX12_readTune 57 = .ok (.ifCond .eq 110, 3) := by decide +kernel
theorem dX12_readTune_167 : decode cX12_readTune 167 = .ok (.aload_n 0, 1) := by decide +kernel
theorem dX12_readTune_168 : decode cX12_readTune 168 = .ok (.getfield 55, 3) := by decide +kernel
theorem dX12_readTune_171 : decode cX12_readTune 171 = .ok (.iload_n 1, 1) := by decide +kernel
theorem dX12_readTune_172 : decode cX12_readTune 172 = .ok (.lload_n 2, 1) := by decide +kernel
theorem dX12_readTune_173 : decode cX12_readTune 173 = .ok (.lastore, 1) := by decide +kernel
theorem dX12_readTune_174 : decode cX12_readTune 174 = .ok (.aload_n 0, 1) := by decide +kernel
theorem dX12_readTune_175 : decode cX12_readTune 175 = .ok (.getfield 20, 3) := by decide +kernel
theorem dX12_readTune_178 : decode cX12_readTune 178 = .ok (.aload_n 0, 1) := by decide +kernel
theorem dX12_readTune_179 : decode cX12_readTune 179 = .ok (.getfield 218, 3) := by decide +kernel
theorem dX12_readTune_182 : decode cX12_readTune 182 = .ok (.dup2, 1) := by decide +kernel
theorem dX12_readTune_183 : decode cX12_readTune 183 = .ok (.iaload, 1) := by decide +kernel
theorem dX12_readTune_184 : decode cX12_readTune 184 = .ok (.iconst 1, 1) := by decide +kernel
theorem dX12_readTune_185 : decode cX12_readTune 185 = .ok (.iadd, 1) := by decide +kernel
theorem dX12_readTune_186 : decode cX12_readTune 186 = .ok (.iastore, 1) := by decide +kernel
theorem dX12_readTune_187 : decode cX12_readTune 187 = .ok (.return_, 1) := by decide +kernel
theorem dX12_readTune_60 : decode cX12_readTune 60 = .ok (.aload_n 0, 1) := by decide +kernel
theorem dX12_readTune_61 : decode cX12_readTune 61 = .ok (.getfield 33, 3) := by decide +kernel
theorem dX12_readTune_64 : decode cX12_readTune 64 = .ok (.iload_n 1, 1) := by decide +kernel
theorem dX12_readTune_65 : decode cX12_readTune 65 = .ok (.iaload, 1) := by decide +kernel
theorem dX12_readTune_66 : decode cX12_readTune 66 = .ok (.ifCond .eq 11, 3) := by decide +kernel
theorem dX12_readTune_77 : decode cX12_readTune 77 = .ok (.aload_n 0, 1) := by decide +kernel
theorem dX12_readTune_78 : decode cX12_readTune 78 = .ok (.getfield 33, 3) := by decide +kernel
theorem dX12_readTune_81 : decode cX12_readTune 81 = .ok (.iload_n 1, 1) := by decide +kernel
theorem dX12_readTune_82 : decode cX12_readTune 82 = .ok (.iaload, 1) := by decide +kernel
theorem dX12_readTune_83 : decode cX12_readTune 83 = .ok (.bipush 12, 2) := by decide +kernel
theorem dX12_readTune_85 : decode cX12_readTune 85 = .ok (.if_icmp .ne 7, 3) := by decide +kernel
theorem dX12_readTune_92 : decode cX12_readTune 92 = .ok (.aload_n 0, 1) := by decide +kernel
theorem dX12_readTune_93 : decode cX12_readTune 93 = .ok (.iconst 0, 1) := by decide +kernel
theorem dX12_readTune_94 : decode cX12_readTune 94 = .ok (.bipush 60, 2) := by decide +kernel
theorem dX12_readTune_96 : decode cX12_readTune 96 = .ok (.invokevirtual 277, 3) := by decide +kernel
theorem dX12_readTune_99 : decode cX12_readTune 99 = .ok (.istore 4, 2) := by decide +kernel
theorem dX12_readTune_101 : decode cX12_readTune 101 = .ok (.aload_n 0, 1) := by decide +kernel
theorem dX12_readTune_102 : decode cX12_readTune 102 = .ok (.iconst 1, 1) := by decide +kernel
theorem dX12_readTune_103 : decode cX12_readTune 103 = .ok (.bipush 9, 2) := by decide +kernel
theorem dX12_readTune_105 : decode cX12_readTune 105 = .ok (.invokevirtual 277, 3) := by decide +kernel
theorem dX12_readTune_108 : decode cX12_readTune 108 = .ok (.istore 5, 2) := by decide +kernel
theorem dX12_readTune_110 : decode cX12_readTune 110 = .ok (.aload_n 0, 1) := by decide +kernel
theorem dX12_readTune_111 : decode cX12_readTune 111 = .ok (.invokevirtual 208, 3) := by decide +kernel
theorem dX12_readTune_114 : decode cX12_readTune 114 = .ok (.ifCond .ne 4, 3) := by decide +kernel
theorem dX12_readTune_118 : decode cX12_readTune 118 = .ok (.aload_n 0, 1) := by decide +kernel
theorem dX12_readTune_119 : decode cX12_readTune 119 = .ok (.getfield 36, 3) := by decide +kernel
theorem dX12_readTune_122 : decode cX12_readTune 122 = .ok (.bipush 40, 2) := by decide +kernel
theorem dX12_readTune_124 : decode cX12_readTune 124 = .ok (.iload_n 1, 1) := by decide +kernel
theorem dX12_readTune_125 : decode cX12_readTune 125 = .ok (.imul, 1) := by decide +kernel
theorem dX12_readTune_126 : decode cX12_readTune 126 = .ok (.aload_n 0, 1) := by decide +kernel
theorem dX12_readTune_127 : decode cX12_readTune 127 = .ok (.getfield 33, 3) := by decide +kernel
theorem dX12_readTune_130 : decode cX12_readTune 130 = .ok (.iload_n 1, 1) := by decide +kernel
theorem dX12_readTune_131 : decode cX12_readTune 131 = .ok (.iaload, 1) := by decide +kernel
theorem dX12_readTune_132 : decode cX12_readTune 132 = .ok (.iadd, 1) := by decide +kernel
theorem dX12_readTune_133 : decode cX12_readTune 133 = .ok (.iload 4, 2) := by decide +kernel
theorem dX12_readTune_135 : decode cX12_readTune 135 = .ok (.iastore, 1) := by decide +kernel
theorem dX12_readTune_136 : decode cX12_readTune 136 = .ok (.aload_n 0, 1) := by decide +kernel
theorem dX12_readTune_137 : decode cX12_readTune 137 = .ok (.getfield 39, 3) := by decide +kernel
theorem dX12_readTune_140 : decode cX12_readTune 140 = .ok (.bipush 40, 2) := by decide +kernel
theorem dX12_readTune_142 : decode cX12_readTune 142 = .ok (.iload_n 1, 1) := by decide +kernel
theorem dX12_readTune_143 : decode cX12_readTune 143 = .ok (.imul, 1) := by decide +kernel
theorem dX12_readTune_144 : decode cX12_readTune 144 = .ok (.aload_n 0, 1) := by decide +kernel
theorem dX12_readTune_145 : decode cX12_readTune 145 = .ok (.getfield 33, 3) := by decide +kernel
theorem dX12_readTune_148 : decode cX12_readTune 148 = .ok (.iload_n 1, 1) := by decide +kernel
theorem dX12_readTune_149 : decode cX12_readTune 149 = .ok (.iaload, 1) := by decide +kernel
theorem dX12_readTune_150 : decode cX12_readTune 150 = .ok (.iadd, 1) := by decide +kernel
theorem dX12_readTune_151 : decode cX12_readTune 151 = .ok (.iload 5, 2) := by decide +kernel
theorem dX12_readTune_153 : decode cX12_readTune 153 = .ok (.iastore, 1) := by decide +kernel
theorem dX12_readTune_154 : decode cX12_readTune 154 = .ok (.aload_n 0, 1) := by decide +kernel
theorem dX12_readTune_155 : decode cX12_readTune 155 = .ok (.getfield 33, 3) := by decide +kernel
theorem dX12_readTune_158 : decode cX12_readTune 158 = .ok (.iload_n 1, 1) := by decide +kernel
theorem dX12_readTune_159 : decode cX12_readTune 159 = .ok (.dup2, 1) := by decide +kernel
theorem dX12_readTune_160 : decode cX12_readTune 160 = .ok (.iaload, 1) := by decide +kernel
theorem dX12_readTune_161 : decode cX12_readTune 161 = .ok (.iconst 1, 1) := by decide +kernel
theorem dX12_readTune_162 : decode cX12_readTune 162 = .ok (.iadd, 1) := by decide +kernel
theorem dX12_readTune_163 : decode cX12_readTune 163 = .ok (.iastore, 1) := by decide +kernel
theorem dX12_readTune_164 : decode cX12_readTune 164 = .ok (.goto (-111), 3) := by decide +kernel
theorem dX12_readTune_117 : decode cX12_readTune 117 = .ok (.return_, 1) := by decide +kernel
theorem dX12_readTune_69 : decode cX12_readTune 69 = .ok (.aload_n 0, 1) := by decide +kernel
theorem dX12_readTune_70 : decode cX12_readTune 70 = .ok (.getfield 180, 3) := by decide +kernel
theorem dX12_readTune_73 : decode cX12_readTune 73 = .ok (.iconst 4, 1) := by decide +kernel
theorem dX12_readTune_74 : decode cX12_readTune 74 = .ok (.if_icmp .ne 93, 3) := by decide +kernel
theorem dX12_readTune_88 : decode cX12_readTune 88 = .ok (.aload_n 0, 1) := by decide +kernel
theorem dX12_readTune_89 : decode cX12_readTune 89 = .ok (.invokevirtual 215, 3) := by decide +kernel
theorem dX12_readTune_23 : decode cX12_readTune 23 = .ok (.ifCond .lt 7, 3) := by decide +kernel
theorem dX12_readTune_30 : decode cX12_readTune 30 = .ok (.iconst 0, 1) := by decide +kernel
theorem dX12_readTune_26 : decode cX12_readTune 26 = .ok (.iconst 1, 1) := by decide +kernel
theorem dX12_readTune_27 : decode cX12_readTune 27 = .ok (.goto 4, 3) := by decide +kernel
theorem dX12_readSweet_0 : decode cX12_readSweet 0 = .ok (.aload_n 0, 1) := by decide +kernel
theorem dX12_readSweet_1 : decode cX12_readSweet 1 = .ok (.getfield 51, 3) := by decide +kernel
theorem dX12_readSweet_4 : decode cX12_readSweet 4 = .ok (.aload_n 0, 1) := by decide +kernel
theorem dX12_readSweet_5 : decode cX12_readSweet 5 = .ok (.getfield 218, 3) := by decide +kernel
theorem dX12_readSweet_8 : decode cX12_readSweet 8 = .ok (.iconst 1, 1) := by decide +kernel
theorem dX12_readSweet_9 : decode cX12_readSweet 9 = .ok (.bastore, 1) := by decide +kernel
theorem dX12_readSweet_10 : decode cX12_readSweet 10 = .ok (.iconst 0, 1) := by decide +kernel
theorem dX12_readSweet_11 : decode cX12_readSweet 11 = .ok (.istore_n 1, 1) := by decide +kernel
theorem dX12_readSweet_12 : decode cX12_readSweet 12 = .ok (.iconst 0, 1) := by decide +kernel
theorem dX12_readSweet_13 : decode cX12_readSweet 13 = .ok (.istore_n 2, 1) := by decide +kernel
theorem dX12_readSweet_14 : decode cX12_readSweet 14 = .ok (.aload_n 0, 1) := by decide +kernel
theorem dX12_readSweet_15 : decode cX12_readSweet 15 = .ok (.invokevirtual 208, 3) := by decide +kernel
theorem dX12_readSweet_18 : decode cX12_readSweet 18 = .ok (.ifCond .eq 90, 3) := by decide +kernel
theorem dX12_readSweet_108 : decode cX12_readSweet 108 = .ok (.aload_n 0, 1) := by decide +kernel
theorem dX12_readSweet_109 : decode cX12_readSweet 109 = .ok (.getfield 30, 3) := by decide +kernel
theorem dX12_readSweet_112 : decode cX12_readSweet 112 = .ok (.aload_n 0, 1) := by decide +kernel
theorem dX12_readSweet_113 : decode cX12_readSweet 113 = .ok (.getfield 218, 3) := by decide +kernel
theorem dX12_readSweet_116 : decode cX12_readSweet 116 = .ok (.iload_n 1, 1) := by decide +kernel
theorem dX12_readSweet_117 : decode cX12_readSweet 117 = .ok (.iastore, 1) := by decide +kernel
theorem dX12_readSweet_118 : decode cX12_readSweet 118 = .ok (.return_, 1) := by decide +kernel
theorem dX12_readSweet_21 : decode cX12_readSweet 21 = .ok (.iload_n 2, 1) := by decide +kernel
theorem dX12_readSweet_22 : decode cX12_readSweet 22 = .ok (.ifCond .eq 11, 3) := by decide +kernel
theorem dX12_readSweet_88 : decode cX12_readSweet 88 = .ok (.aload_n 0, 1) := by decide +kernel
theorem dX12_readSweet_89 : decode cX12_readSweet 89 = .ok (.iconst 0, 1) := by decide +kernel
theorem dX12_readSweet_90 : decode cX12_readSweet 90 = .ok (.bipush 11, 2) := by decide +kernel
theorem dX12_readSweet_92 : decode cX12_readSweet 92 = .ok (.invokevirtual 277, 3) := by decide +kernel
theorem dX12_readSweet_95 : decode cX12_readSweet 95 = .ok (.istore_n 3, 1) := by decide +kernel
theorem dX12_readSweet_96 : decode cX12_readSweet 96 = .ok (.iload_n 1, 1) := by decide +kernel
theorem dX12_readSweet_97 : decode cX12_readSweet 97 = .ok (.iconst 1, 1) := by decide +kernel
theorem dX12_readSweet_98 : decode cX12_readSweet 98 = .ok (.iload_n 3, 1) := by decide +kernel
theorem dX12_readSweet_99 : decode cX12_readSweet 99 = .ok (.ishl, 1) := by decide +kernel
theorem dX12_readSweet_100 : decode cX12_readSweet 100 = .ok (.ior, 1) := by decide +kernel
theorem dX12_readSweet_101 : decode cX12_readSweet 101 = .ok (.istore_n 1, 1) := by decide +kernel
theorem dX12_readSweet_102 : decode cX12_readSweet 102 = .ok (.iinc 2 1, 3) := by decide +kernel
theorem dX12_readSweet_105 : decode cX12_readSweet 105 = .ok (.goto (-91), 3) := by decide +kernel
theorem dX12_readSweet_33 : decode cX12_readSweet 33 = .ok (.iload_n 2, 1) := by decide +kernel
theorem dX12_readSweet_34 : decode cX12_readSweet 34 = .ok (.bipush 12, 2) := by decide +kernel
theorem dX12_readSweet_36 : decode cX12_readSweet 36 = .ok (.if_icmp .ne 7, 3) := by decide +kernel
theorem dX12_readSweet_43 : decode cX12_readSweet 43 = .ok (.aload_n 0, 1) := by decide +kernel
theorem dX12_readSweet_44 : decode cX12_readSweet 44 = .ok (.invokevirtual 208, 3) := by decide +kernel
theorem dX12_readSweet_47 : decode cX12_readSweet 47 = .ok (.ifCond .eq 41, 3) := by decide +kernel
theorem dX12_readSweet_50 : decode cX12_readSweet 50 = .ok (.aload_n 0, 1) := by decide +kernel
theorem dX12_readSweet_51 : decode cX12_readSweet 51 = .ok (.getfield 180, 3) := by decide +kernel
theorem dX12_readSweet_54 : decode cX12_readSweet 54 = .ok (.iconst 4, 1) := by decide +kernel
theorem dX12_readSweet_55 : decode cX12_readSweet 55 = .ok (.if_icmp .ne 33, 3) := by decide +kernel
theorem dX12_readSweet_58 : decode cX12_readSweet 58 = .ok (.aload_n 0, 1) := by decide +kernel
theorem dX12_readSweet_59 : decode cX12_readSweet 59 = .ok (.getfield 198, 3) := by decide +kernel
theorem dX12_readSweet_62 : decode cX12_readSweet 62 = .ok (.bipush 12, 2) := by decide +kernel
theorem dX12_readSweet_64 : decode cX12_readSweet 64 = .ok (.if_icmp .ge 24, 3) := by decide +kernel
theorem dX12_readSweet_67 : decode cX12_readSweet 67 = .ok (.iload_n 1, 1) := by decide +kernel
theorem dX12_readSweet_68 : decode cX12_readSweet 68 = .ok (.aload_n 0, 1) := by decide +kernel
theorem dX12_readSweet_69 : decode cX12_readSweet 69 = .ok (.getfield 198, 3) := by decide +kernel
theorem dX12_readSweet_72 : decode cX12_readSweet 72 = .ok (.ishr, 1) := by decide +kernel
theorem dX12_readSweet_73 : decode cX12_readSweet 73 = .ok (.iconst 1, 1) := by decide +kernel
theorem dX12_readSweet_74 : decode cX12_readSweet 74 = .ok (.iand, 1) := by decide +kernel
theorem dX12_readSweet_75 : decode cX12_readSweet 75 = .ok (.iconst 1, 1) := by decide +kernel
theorem dX12_readSweet_76 : decode cX12_readSweet 76 = .ok (.if_icmp .ne 12, 3) := by decide +kernel
theorem dX12_readSweet_79 : decode cX12_readSweet 79 = .ok (.aload_n 0, 1) := by decide +kernel
theorem dX12_readSweet_80 : decode cX12_readSweet 80 = .ok (.iconst 3, 1) := by decide +kernel
theorem dX12_readSweet_81 : decode cX12_readSweet 81 = .ok (.aload_n 0, 1) := by decide +kernel
theorem dX12_readSweet_82 : decode cX12_readSweet 82 = .ok (.getfield 173, 3) := by decide +kernel
theorem dX12_readSweet_85 : decode cX12_readSweet 85 = .ok (.invokevirtual 204, 3) := by decide +kernel
theorem dX12_readSweet_25 : decode cX12_readSweet 25 = .ok (.aload_n 0, 1) := by decide +kernel
theorem dX12_readSweet_26 : decode cX12_readSweet 26 = .ok (.getfield 180, 3) := by decide +kernel
theorem dX12_readSweet_29 : decode cX12_readSweet 29 = .ok (.iconst 4, 1) := by decide +kernel
theorem dX12_readSweet_30 : decode cX12_readSweet 30 = .ok (.if_icmp .ne 78, 3) := by decide +kernel
theorem dX12_readSweet_39 : decode cX12_readSweet 39 = .ok (.aload_n 0, 1) := by decide +kernel
theorem dX12_readSweet_40 : decode cX12_readSweet 40 = .ok (.invokevirtual 215, 3) := by decide +kernel
/-! what stands in the bank that is being read -/
def RIx (a c d x y : Nat → Int32) (b : Nat) : Prop := ∀ l : Nat, (l : Int) < (a b).toInt → 600 * (b : Int) ≤ (c (8 * b + l)).toInt ∧ (c (8 * b + l)).toInt ≤ (d (8 * b + l)).toInt ∧ (d (8 * b + l)).toInt ≤ 600 * (b : Int) + 600 ∧ wfr x y (c (8 * b + l)).toInt.toNat (d (8 * b + l)).toInt.toNat
def PB (rb cd U : Int) (a c d x y : Nat → Int32) (b : Nat) : Prop := RIx a c d x y b ∧ (∀ l : Nat, (l : Int) < (a b).toInt → (d (8 * b + l)).toInt ≤ cd) ∧ 600 * rb ≤ cd ∧ cd ≤ 600 * rb + 9 * U
theorem PB.add {rb F cd U U' : Int} {a c d x y x' y' : Nat → Int32} {b i : Nat} {n1 w1 w2 : Int32} (h : PB rb F U a c d x y b) (hb : (b : Int) = rb) (ha : 0 ≤ (a b).toInt) (hi : i = 8 * b + (a b).toInt.toNat) (hn : n1.toInt = (a b).toInt + 1) (hw1 : w1.toInt = F) (hw2 : w2.toInt = cd) (ho : OUT F (600 * rb + 600) x y x' y') (hwf : wfr x' y' F.toNat cd.toNat) (hFc : F ≤ cd) (hcd : cd ≤ 600 * rb + 9 * U') (hU : U' ≤ 60) : PB rb cd U' (upd a b n1) (upd c i w1) (upd d i w2) x' y' b := by
  obtain ⟨h1, h2, h3, h4⟩ := h
  refine ⟨fun l hl => ?_, fun l hl => ?_, by omega, hcd⟩
  · rw [pk_us] at hl
    by_cases e : (l : Int) = (a b).toInt
    · have e2 : 8 * b + l = i := by omega
      rw [e2, pk_us, pk_us, hw1, hw2]
      exact ⟨by omega, hFc, by omega, hwf⟩
    · have hne : 8 * b + l ≠ i := by omega
      rw [pk_un hne, pk_un hne]
      obtain ⟨g1, g2, g3, g4⟩ := h1 l (by omega)
      have g5 := h2 l (by omega)
      exact ⟨g1, g2, g3, wfr_cong (fun k k1 k2 => ho k (Or.inl (by omega))) g4⟩
  · rw [pk_us] at hl
    by_cases e : (l : Int) = (a b).toInt
    · have e2 : 8 * b + l = i := by omega
      rw [e2, pk_us, hw2]
      exact Int.le_refl _
    · have hne : 8 * b + l ≠ i := by omega
      rw [pk_un hne]
      have g5 := h2 l (by omega)
      omega
theorem RIb.w19 {f : Nat → Nat → Int32} {b i : Nat} {x : Int32} (h : RIb f b) (hl : (f 12 b).toInt ≤ 8) (ho : (i : Int) < 8 * b ∨ 8 * (b : Int) + 8 ≤ i) : RIb (va_up f 19 (upd (f 19) i x)) b := fun l hl2 => by
  have e : upd (f 19) i x (8 * b + l) = f 19 (8 * b + l) := pk_un (by
    replace hl2 : (l : Int) < (f 12 b).toInt := hl2
    omega)
  show 600 * (b : Int) ≤ (upd (f 19) i x (8 * b + l)).toInt ∧ (upd (f 19) i x (8 * b + l)).toInt ≤ _ ∧ _ ∧ wfr _ _ (upd (f 19) i x (8 * b + l)).toInt.toNat _
  rw [e]
  exact h l hl2
theorem RIb.w20 {f : Nat → Nat → Int32} {b i : Nat} {x : Int32} (h : RIb f b) (hl : (f 12 b).toInt ≤ 8) (ho : (i : Int) < 8 * b ∨ 8 * (b : Int) + 8 ≤ i) : RIb (va_up f 20 (upd (f 20) i x)) b := fun l hl2 => by
  have e : upd (f 20) i x (8 * b + l) = f 20 (8 * b + l) := pk_un (by
    replace hl2 : (l : Int) < (f 12 b).toInt := hl2
    omega)
  show _ ∧ _ ≤ (upd (f 20) i x (8 * b + l)).toInt ∧ (upd (f 20) i x (8 * b + l)).toInt ≤ _ ∧ wfr _ _ _ (upd (f 20) i x (8 * b + l)).toInt.toNat
  rw [e]
  exact h l hl2
theorem RIb.w12 {f : Nat → Nat → Int32} {b i : Nat} {x : Int32} (h : RIb f b) (hi : b ≠ i) : RIb (va_up f 12 (upd (f 12) i x)) b := fun l hl2 => h l (by
  replace hl2 : (l : Int) < (upd (f 12) i x b).toInt := hl2
  rw [pk_un hi] at hl2
  exact hl2)
theorem WL.w12 {v : Nat → Int32} {f : Nat → Nat → Int32} {i : Nat} {x : Int32} (h : WL v f) (hi : Int32.toNatClampNeg (v 29) ≠ i) : WL v (va_up f 12 (upd (f 12) i x)) := fun k hk => by
  show _ ∧ _ < (upd (f 12) i x (Int32.toNatClampNeg (v 29))).toInt
  rw [pk_un hi]
  exact h k hk
set_option maxHeartbeats 4000000 in
set_option maxRecDepth 100000 in
theorem m_isFull (l : Launch) (G : va_G) (cy : Nat → ClassId) (sz : Nat) (mo : Nat) (h : Nat → Nat) (T : Int) (v : Nat → Int32) (nm : Int64) (f : Nat → Nat → Int32) (g : Nat → Nat → Int64)   (hv : MIv T v) (hf : MIf f) (hR : RI v f) (hL : WL v f) (htk : (v 8).toInt = 3) : Met l yX12_isFull (.code yX12_isFull cX12_isFull 1 (some .boolean) :: TBg) ({ frames := 2, cells := 0, slots := 0, locals := 128 }) (va_Pc [.ref mo] (En G cy (WMs cy mo h v nm f g) sz)) (va_Qi (fun (r : Int32) (_ : Unit) => ((r.toInt = 0 ∨ r.toInt = 1)) ∧ (r.toInt = 0 → (nm = 1953853029 → ¬ (f 11 (Int32.toNatClampNeg (v 30))).toInt = 14) ∧ (nm = 1819239275 → ¬ (f 12 (Int32.toNatClampNeg (v 30))).toInt = 8))) (fun _ _ => True) (va_A [] sz)) 0 0 (va_A [] sz) := by
  refine Met.ofW (cc := cX12_isFull) (maxL := 1) (ret := (some .boolean)) (by decide) rfl ?_
  intro p e s m args below meth c s₁ B hml hv9
  obtain ⟨rfl, hsz, hP, hK, hD0, hN⟩ := hv9
  have hx := B.exec
  have hb := B.bytes
  have hr := B.returns
  have hts := atoms_spec (ws := .code yX12_isFull cX12_isFull 1 (some .boolean) :: TBg) B.pre
  have ht : ∀ w ∈ TBg, w.before _ s = true := fun w h => hts w (List.mem_cons_of_mem _ h)
  have hown : s.vm.findClass RX12 = some m.cls := findClass_of_methodNamed B.named
  have hlocks := B.notSynchronized
  subst hsz
  generalize hAe : va_A [] s.heap.size = A at ⊢
  have hA : ∀ q : Nat, s.heap.size ≤ q → A q := fun q h => by rw [← hAe]; exact Or.inr h
  have hS : va_S A s.heap s.heap [] := va_S.rf
  have hl := lv_entry ([.ref mo]) (n := 1) (Nat.le_of_ble_eq_true rfl)
  rw [lg_entry_eq]
  generalize (lg_sl ([.ref mo]) ++ List.replicate (1 - (lg_sl ([.ref mo])).length) Slot.unset).toArray = ls at hl ⊢
  have hl : lv_has ls 1 [(0, .ref mo)] := hl
  have z0 : (0 : Int32).toInt = 0 := by decide
  have z1 : (1 : Int32).toInt = 1 := by decide
  have z2 : (8 : Int32).toInt = 8 := by decide
  have z3 : (14 : Int32).toInt = 14 := by decide
  refine lv_aload_n hx hb dX12_isFull_0 rfl (lv_at hl 0 rfl) ?_
  refine lv_ldc2 (v := 1953853029) hx hb hown (ht _ k_198) dX12_isFull_1 ?_
  have hFc := fr_new hS hA
  refine va_calli (va_runV (As := [.long (1953853029 : Int64)]) (rest := []) ⟨hx, hb, hml, hown, ht⟩ (m_isWord l G cy _ mo h T v nm f g (1953853029 : Int64)  hv hf hR hL) (cwV 1 ht (gv k_240 k_241 k_242 k_61 k_239) rfl rfl rfl (by decide +kernel) ⟨Nat.le_of_ble_eq_true rfl, Nat.le_of_ble_eq_true rfl⟩) ⟨En.blind, va_recv hK hP (ci := 12) (q0 := 0) rfl rfl, fun U hU hW => ⟨rfl, En.of hU hW hP hK hD0 hN⟩⟩ rfl rfl hl.1 rfl (lv_room (Nat.le_of_ble_eq_true rfl)) dX12_isFull_4 ⟨Nat.le_of_ble_eq_true rfl, Nat.le_of_ble_eq_true rfl⟩) hS (fun q _ h => hFc q h) hFc (fun r_u_1 u_1 t9 H locs ht9 hvm hw hB hz1 hk1 hS => ?_)
  have hP := fr_keep hP hk1
  obtain ⟨wu_1, xu_1_W⟩ := hw
  clear hFc hk1 hz1 hB
  replace wu_1 : (r_u_1.toInt = 0 ∨ r_u_1.toInt = 1) ∧ (r_u_1.toInt = 0 ∨ (v 8).toInt = 3) := wu_1
  replace xu_1_W : (r_u_1.toInt = 1 → nm = (1953853029 : Int64)) ∧ (r_u_1.toInt = 0 → (v 8).toInt = 3 → ¬ nm = (1953853029 : Int64)) := by
    have h9 : (r_u_1.toInt = 1 → nm = (1953853029 : Int64)) ∧ (r_u_1.toInt = 0 → (v 8).toInt = 3 → ¬ nm = (1953853029 : Int64)) := xu_1_W
    exact h9
  refine lv_if_eq (tgt := 30) hx hb dX12_isFull_7 (by decide) (fun c_2 => ?_) (fun c_2 => ?_)
  · have q_3 : r_u_1.toInt = (0 : Int32).toInt := (ow_eq _ _).mp c_2
    refine lv_aload_n hx hb dX12_isFull_30 rfl (lv_at hl 0 rfl) ?_
    refine lv_ldc2 (v := 1819239275) hx hb hown (ht _ k_200) dX12_isFull_31 ?_
    have hFc := fr_new hS hA
    refine va_calli (va_runV (As := [.long (1819239275 : Int64)]) (rest := []) ⟨hx, hb, hml, hown, ht⟩ (m_isWord l G cy _ mo h T v nm f g (1819239275 : Int64)  hv hf hR hL) (cwV 1 ht (gv k_240 k_241 k_242 k_61 k_239) rfl rfl rfl (by decide +kernel) ⟨Nat.le_of_ble_eq_true rfl, Nat.le_of_ble_eq_true rfl⟩) ⟨En.blind, va_recv hK hP (ci := 12) (q0 := 0) rfl rfl, fun U hU hW => ⟨rfl, En.of hU hW hP hK hD0 hN⟩⟩ rfl rfl hl.1 rfl (lv_room (Nat.le_of_ble_eq_true rfl)) dX12_isFull_34 ⟨Nat.le_of_ble_eq_true rfl, Nat.le_of_ble_eq_true rfl⟩) hS (fun q _ h => hFc q h) hFc (fun r_u_4 u_4 t9 H locs ht9 hvm hw hB hz1 hk1 hS => ?_)
    have hP := fr_keep hP hk1
    obtain ⟨wu_4, xu_4_W⟩ := hw
    clear hFc hk1 hz1 hB
    replace wu_4 : (r_u_4.toInt = 0 ∨ r_u_4.toInt = 1) ∧ (r_u_4.toInt = 0 ∨ (v 8).toInt = 3) := wu_4
    replace xu_4_W : (r_u_4.toInt = 1 → nm = (1819239275 : Int64)) ∧ (r_u_4.toInt = 0 → (v 8).toInt = 3 → ¬ nm = (1819239275 : Int64)) := by
      have h9 : (r_u_4.toInt = 1 → nm = (1819239275 : Int64)) ∧ (r_u_4.toInt = 0 → (v 8).toInt = 3 → ¬ nm = (1819239275 : Int64)) := xu_4_W
      exact h9
    refine lv_if_eq (tgt := 60) hx hb dX12_isFull_37 (by decide) (fun c_5 => ?_) (fun c_5 => ?_)
    · have q_6 : r_u_4.toInt = (0 : Int32).toInt := (ow_eq _ _).mp c_5
      refine lv_aload_n hx hb dX12_isFull_60 rfl (lv_at hl 0 rfl) ?_
      refine lv_ldc2 (v := 495924372852) hx hb hown (ht _ k_203) dX12_isFull_61 ?_
      have hFc := fr_new hS hA
      refine va_calli (va_runV (As := [.long (495924372852 : Int64)]) (rest := []) ⟨hx, hb, hml, hown, ht⟩ (m_isWord l G cy _ mo h T v nm f g (495924372852 : Int64)  hv hf hR hL) (cwV 1 ht (gv k_240 k_241 k_242 k_61 k_239) rfl rfl rfl (by decide +kernel) ⟨Nat.le_of_ble_eq_true rfl, Nat.le_of_ble_eq_true rfl⟩) ⟨En.blind, va_recv hK hP (ci := 12) (q0 := 0) rfl rfl, fun U hU hW => ⟨rfl, En.of hU hW hP hK hD0 hN⟩⟩ rfl rfl hl.1 rfl (lv_room (Nat.le_of_ble_eq_true rfl)) dX12_isFull_64 ⟨Nat.le_of_ble_eq_true rfl, Nat.le_of_ble_eq_true rfl⟩) hS (fun q _ h => hFc q h) hFc (fun r_u_7 u_7 t9 H locs ht9 hvm hw hB hz1 hk1 hS => ?_)
      have hP := fr_keep hP hk1
      obtain ⟨wu_7, xu_7_W⟩ := hw
      clear hFc hk1 hz1 hB
      replace wu_7 : (r_u_7.toInt = 0 ∨ r_u_7.toInt = 1) ∧ (r_u_7.toInt = 0 ∨ (v 8).toInt = 3) := wu_7
      replace xu_7_W : (r_u_7.toInt = 1 → nm = (495924372852 : Int64)) ∧ (r_u_7.toInt = 0 → (v 8).toInt = 3 → ¬ nm = (495924372852 : Int64)) := by
        have h9 : (r_u_7.toInt = 1 → nm = (495924372852 : Int64)) ∧ (r_u_7.toInt = 0 → (v 8).toInt = 3 → ¬ nm = (495924372852 : Int64)) := xu_7_W
        exact h9
      refine lv_if_eq (tgt := 82) hx hb dX12_isFull_67 (by decide) (fun c_8 => ?_) (fun c_8 => ?_)
      · have q_9 : r_u_7.toInt = (0 : Int32).toInt := (ow_eq _ _).mp c_8
        refine lv_iconst (v := 1) hx hb dX12_isFull_82 (by decide) ?_
        refine lv_goto (tgt := 87) hx hb dX12_isFull_83 (by decide) ?_
        refine W.widen (k := 0) (n := 0) (Nat.le_of_ble_eq_true rfl) (Nat.le_of_ble_eq_true rfl) ?_
        exact W.zret (v := 1) hx hb hr rfl (fun t ht9 hW => ⟨⟨1, (), rfl, ⟨(by omega), fun h => absurd h (by decide)⟩, trivial⟩, hS.F ht9⟩) hS.2.2 dX12_isFull_87
      · have q_10 : ¬ r_u_7.toInt = (0 : Int32).toInt := by have := (not_congr (ow_eq _ _)).mp c_8; omega
        refine lv_aload_n hx hb dX12_isFull_70 rfl (lv_at hl 0 rfl) ?_
        refine mg_21 hx hb ht hown hK hP dX12_isFull_71 ?_
        refine lv_aload_n hx hb dX12_isFull_74 rfl (lv_at hl 0 rfl) ?_
        refine mg_30 hx hb ht hown hK hP dX12_isFull_75 ?_
        have q_11 : 0 ≤ (v 30).toInt ∧ (v 30).toInt ≤ 1 := hv 30
        have q_12 : vp_in (v 30) 2 := vp_in_iff.mpr ⟨by omega, by omega⟩
        refine ml_21 hx hb hK hP q_12 dX12_isFull_78 ?_
        refine lv_topi (fun v_13 ev_13 => ?_)
        refine lv_if_eq (tgt := 86) hx hb dX12_isFull_79 (by decide) (fun c_14 => ?_) (fun c_14 => ?_)
        · have q_15 : v_13.toInt = (0 : Int32).toInt := (ow_eq _ _).mp c_14
          refine lv_iconst (v := 0) hx hb dX12_isFull_86 (by decide) ?_
          refine W.widen (k := 0) (n := 0) (Nat.le_of_ble_eq_true rfl) (Nat.le_of_ble_eq_true rfl) ?_
          exact W.zret (v := 0) hx hb hr rfl (fun t ht9 hW => ⟨⟨0, (), rfl, ⟨(by omega), fun _ => ⟨fun h => absurd h (xu_1_W.2 (by omega) (by omega)), fun h => absurd h (xu_4_W.2 (by omega) (by omega))⟩⟩, trivial⟩, hS.F ht9⟩) hS.2.2 dX12_isFull_87
        · have q_16 : ¬ v_13.toInt = (0 : Int32).toInt := by have := (not_congr (ow_eq _ _)).mp c_14; omega
          refine lv_iconst (v := 1) hx hb dX12_isFull_82 (by decide) ?_
          refine lv_goto (tgt := 87) hx hb dX12_isFull_83 (by decide) ?_
          refine W.widen (k := 0) (n := 0) (Nat.le_of_ble_eq_true rfl) (Nat.le_of_ble_eq_true rfl) ?_
          exact W.zret (v := 1) hx hb hr rfl (fun t ht9 hW => ⟨⟨1, (), rfl, ⟨(by omega), fun h => absurd h (by decide)⟩, trivial⟩, hS.F ht9⟩) hS.2.2 dX12_isFull_87
    · have q_17 : ¬ r_u_4.toInt = (0 : Int32).toInt := by have := (not_congr (ow_eq _ _)).mp c_5; omega
      refine lv_aload_n hx hb dX12_isFull_40 rfl (lv_at hl 0 rfl) ?_
      refine mg_12 hx hb ht hown hK hP dX12_isFull_41 ?_
      refine lv_aload_n hx hb dX12_isFull_44 rfl (lv_at hl 0 rfl) ?_
      refine mg_30 hx hb ht hown hK hP dX12_isFull_45 ?_
      have q_18 : 0 ≤ (v 30).toInt ∧ (v 30).toInt ≤ 1 := hv 30
      have q_19 : vp_in (v 30) 2 := vp_in_iff.mpr ⟨by omega, by omega⟩
      refine ml_12 hx hb hK hP q_19 dX12_isFull_48 ?_
      refine lv_topi (fun v_20 ev_20 => ?_)
      have q_21 : 0 ≤ v_20.toInt ∧ v_20.toInt ≤ 8 := by rw [ev_20]; exact MIf.rd 12 hf q_19
      have q_22 : v_20.toInt = ((f 12) (Int32.toNatClampNeg (v 30))).toInt := (congrArg Int32.toInt ev_20).trans (congrArg (fun z : Nat → Int32 => (z (Int32.toNatClampNeg (v 30))).toInt) (show f 12 = (f 12) from rfl))
      refine lv_bipush (v := 8) hx hb dX12_isFull_49 (by decide) ?_
      refine lv_icmp_ne (tgt := 58) hx hb dX12_isFull_51 (by decide) (fun c_23 => ?_) (fun c_23 => ?_)
      · have q_24 : ¬ v_20.toInt = (8 : Int32).toInt := by have := (not_congr (ow_eq _ _)).mp c_23; omega
        refine lv_iconst (v := 0) hx hb dX12_isFull_58 (by decide) ?_
        refine W.widen (k := 0) (n := 0) (Nat.le_of_ble_eq_true rfl) (Nat.le_of_ble_eq_true rfl) ?_
        exact W.zret (v := 0) hx hb hr rfl (fun t ht9 hW => ⟨⟨0, (), rfl, ⟨(by omega), fun _ => ⟨fun h => absurd h (xu_1_W.2 (by omega) (by omega)), fun _ => by omega⟩⟩, trivial⟩, hS.F ht9⟩) hS.2.2 dX12_isFull_59
      · have q_25 : v_20.toInt = (8 : Int32).toInt := (ow_eq _ _).mp c_23
        refine lv_iconst (v := 1) hx hb dX12_isFull_54 (by decide) ?_
        refine lv_goto (tgt := 59) hx hb dX12_isFull_55 (by decide) ?_
        refine W.widen (k := 0) (n := 0) (Nat.le_of_ble_eq_true rfl) (Nat.le_of_ble_eq_true rfl) ?_
        exact W.zret (v := 1) hx hb hr rfl (fun t ht9 hW => ⟨⟨1, (), rfl, ⟨(by omega), fun h => absurd h (by decide)⟩, trivial⟩, hS.F ht9⟩) hS.2.2 dX12_isFull_59
  · have q_26 : ¬ r_u_1.toInt = (0 : Int32).toInt := by have := (not_congr (ow_eq _ _)).mp c_2; omega
    refine lv_aload_n hx hb dX12_isFull_10 rfl (lv_at hl 0 rfl) ?_
    refine mg_11 hx hb ht hown hK hP dX12_isFull_11 ?_
    refine lv_aload_n hx hb dX12_isFull_14 rfl (lv_at hl 0 rfl) ?_
    refine mg_30 hx hb ht hown hK hP dX12_isFull_15 ?_
    have q_27 : 0 ≤ (v 30).toInt ∧ (v 30).toInt ≤ 1 := hv 30
    have q_28 : vp_in (v 30) 2 := vp_in_iff.mpr ⟨by omega, by omega⟩
    refine ml_11 hx hb hK hP q_28 dX12_isFull_18 ?_
    refine lv_topi (fun v_29 ev_29 => ?_)
    have q_30 : 0 ≤ v_29.toInt ∧ v_29.toInt ≤ 14 := by rw [ev_29]; exact MIf.rd 11 hf q_28
    have q_31 : v_29.toInt = ((f 11) (Int32.toNatClampNeg (v 30))).toInt := (congrArg Int32.toInt ev_29).trans (congrArg (fun z : Nat → Int32 => (z (Int32.toNatClampNeg (v 30))).toInt) (show f 11 = (f 11) from rfl))
    refine lv_bipush (v := 14) hx hb dX12_isFull_19 (by decide) ?_
    refine lv_icmp_ne (tgt := 28) hx hb dX12_isFull_21 (by decide) (fun c_32 => ?_) (fun c_32 => ?_)
    · have q_33 : ¬ v_29.toInt = (14 : Int32).toInt := by have := (not_congr (ow_eq _ _)).mp c_32; omega
      refine lv_iconst (v := 0) hx hb dX12_isFull_28 (by decide) ?_
      refine W.widen (k := 0) (n := 0) (Nat.le_of_ble_eq_true rfl) (Nat.le_of_ble_eq_true rfl) ?_
      exact W.zret (v := 0) hx hb hr rfl (fun t ht9 hW => ⟨⟨0, (), rfl, ⟨(by omega), fun _ => ⟨fun _ => by omega, fun h => absurd ((xu_1_W.1 (by omega)).symm.trans h) (by decide)⟩⟩, trivial⟩, hS.F ht9⟩) hS.2.2 dX12_isFull_29
    · have q_34 : v_29.toInt = (14 : Int32).toInt := (ow_eq _ _).mp c_32
      refine lv_iconst (v := 1) hx hb dX12_isFull_24 (by decide) ?_
      refine lv_goto (tgt := 29) hx hb dX12_isFull_25 (by decide) ?_
      refine W.widen (k := 0) (n := 0) (Nat.le_of_ble_eq_true rfl) (Nat.le_of_ble_eq_true rfl) ?_
      exact W.zret (v := 1) hx hb hr rfl (fun t ht9 hW => ⟨⟨1, (), rfl, ⟨(by omega), fun h => absurd h (by decide)⟩, trivial⟩, hS.F ht9⟩) hS.2.2 dX12_isFull_29
set_option maxHeartbeats 4000000 in
set_option maxRecDepth 100000 in
theorem m_readTune (l : Launch) (G : va_G) (cy : Nat → ClassId) (sz : Nat) (mo : Nat) (h : Nat → Nat) (T : Int) (v : Nat → Int32) (nm : Int64) (f : Nat → Nat → Int32) (g : Nat → Nat → Int64)   (hv : MIv T v) (hf : MIf f) (hR : RI v f) (hL : WL v f) (he : (v 7).toInt ≤ (v 3).toInt) (ht9 : (f 11 (Int32.toNatClampNeg (v 30))).toInt ≤ 13) : Met l yX12_readTune (.code yX12_readTune cX12_readTune 6 none :: TBg) ({ frames := 4, cells := 0, slots := 0, locals := 256 }) (va_Pc [.ref mo] (En G cy (WMs cy mo h v nm f g) sz)) (va_Qv (fun (u : (Nat → Int32) × Int64 × (Nat → Nat → Int32) × (Nat → Nat → Int64)) => MIv T u.1 ∧ MIf u.2.2.1 ∧ RI u.1 u.2.2.1 ∧ WL u.1 u.2.2.1 ∧ FV [4, 5, 6, 7, 8, 9] v u.1 ∧ FF [11, 15, 16, 17] f u.2.2.1 ∧ (((u.1 7).toInt ≤ (v 3).toInt ∧ ((u.1 4).toInt ≠ 0 ∨ (v 4).toInt = 0))) ∧ (0 ≤ mz (v 3).toInt (u.1 7).toInt (u.1 8).toInt ∧ mz (v 3).toInt (u.1 7).toInt (u.1 8).toInt ≤ mz (v 3).toInt (v 7).toInt (v 8).toInt)) (fun u t => Ex G (va_A (WMs cy mo h v nm f g) sz) (WMs cy mo h u.1 u.2.1 u.2.2.1 u.2.2.2) t) (va_A (WMs cy mo h v nm f g) sz)) 0 0 (va_A (WMs cy mo h v nm f g) sz) := by
  refine Met.ofW (cc := cX12_readTune) (maxL := 6) (ret := none) (by decide) rfl ?_
  intro p e s m args below meth c s₁ B hml hv9
  obtain ⟨rfl, hsz, hP, hK, hD0, hN⟩ := hv9
  have hx := B.exec
  have hb := B.bytes
  have hr := B.returns
  have hts := atoms_spec (ws := .code yX12_readTune cX12_readTune 6 none :: TBg) B.pre
  have ht : ∀ w ∈ TBg, w.before _ s = true := fun w h => hts w (List.mem_cons_of_mem _ h)
  have hown : s.vm.findClass RX12 = some m.cls := findClass_of_methodNamed B.named
  have hlocks := B.notSynchronized
  subst hsz
  have hD := hD0.self (sz := s.heap.size)
  generalize hAe : va_A (WMs cy mo h v nm f g) s.heap.size = A at hD ⊢
  have hA : ∀ q : Nat, s.heap.size ≤ q → A q := fun q h => by rw [← hAe]; exact Or.inr h
  have hS : va_S A s.heap s.heap [] := va_S.rf
  have hl := lv_entry ([.ref mo]) (n := 6) (Nat.le_of_ble_eq_true rfl)
  rw [lg_entry_eq]
  generalize (lg_sl ([.ref mo]) ++ List.replicate (6 - (lg_sl ([.ref mo])).length) Slot.unset).toArray = ls at hl ⊢
  have hl : lv_has ls 6 [(0, .ref mo)] := hl
  have z0 : (0 : Int32).toInt = 0 := by decide
  have z1 : (1 : Int32).toInt = 1 := by decide
  have z2 : (4 : Int32).toInt = 4 := by decide
  have z3 : (9 : Int32).toInt = 9 := by decide
  have z4 : (12 : Int32).toInt = 12 := by decide
  have z5 : (14 : Int32).toInt = 14 := by decide
  have z6 : (40 : Int32).toInt = 40 := by decide
  have z7 : (60 : Int32).toInt = 60 := by decide
  have hf_0 := hf
  have hV_0 : FV [4, 5, 6, 7, 8, 9] v v := FV.rf
  have hF_0 : FF [11, 15, 16, 17] f f := FF.rf
  have hmz0 : 0 ≤ mz (v 3).toInt (v 7).toInt (v 8).toInt := mz_nn he
  refine lv_bipush (v := 14) hx hb dX12_readTune_0 (by decide) ?_
  refine lv_aload_n hx hb dX12_readTune_2 rfl (lv_at hl 0 rfl) ?_
  refine mg_30 hx hb ht hown hK hP dX12_readTune_3 ?_
  have q_1 : 0 ≤ (v 30).toInt ∧ (v 30).toInt ≤ 1 := hv 30
  refine lv_imul hx hb dX12_readTune_6 ?_
  refine lv_topi (fun v_2 ev_2 => ?_)
  have q_3 : v_2.toInt = 14 * (v 30).toInt := ow_mul ev_2 (by decide) (by omega) (by omega)
  refine lv_aload_n hx hb dX12_readTune_7 rfl (lv_at hl 0 rfl) ?_
  refine mg_11 hx hb ht hown hK hP dX12_readTune_8 ?_
  refine lv_aload_n hx hb dX12_readTune_11 rfl (lv_at hl 0 rfl) ?_
  refine mg_30 hx hb ht hown hK hP dX12_readTune_12 ?_
  have q_4 : vp_in (v 30) 2 := vp_in_iff.mpr ⟨by omega, by omega⟩
  refine ml_11 hx hb hK hP q_4 dX12_readTune_15 ?_
  refine lv_topi (fun v_5 ev_5 => ?_)
  have q_6 : 0 ≤ v_5.toInt ∧ v_5.toInt ≤ 14 := by rw [ev_5]; exact MIf.rd 11 hf q_4
  have q_7 : v_5.toInt = ((f 11) (Int32.toNatClampNeg (v 30))).toInt := (congrArg Int32.toInt ev_5).trans (congrArg (fun z : Nat → Int32 => (z (Int32.toNatClampNeg (v 30))).toInt) (show f 11 = (f 11) from rfl))
  refine lv_iadd hx hb dX12_readTune_16 ?_
  refine lv_topi (fun v_8 ev_8 => ?_)
  have q_9 : v_8.toInt = v_2.toInt + v_5.toInt := ow_add ev_8 (by omega) (by omega)
  refine lv_istore_n (lv' := [(1, .int v_8), (0, .ref mo)]) hx hb dX12_readTune_17 rfl hl (by decide) rfl (fun ls hl => ?_)
  refine lv_aload_n hx hb dX12_readTune_18 rfl (lv_at hl 1 rfl) ?_
  refine lv_aload_n hx hb dX12_readTune_19 rfl (lv_at hl 1 rfl) ?_
  have hFc := fr_new hS hA
  refine va_calli (va_runV (As := []) (rest := [.ref mo]) ⟨hx, hb, hml, hown, ht⟩ (m_tuneHere l G cy _ mo h T v nm f g   hv hf hR hL) (cwV 0 ht (gv k_260 k_261 k_262 k_61 k_259) rfl rfl rfl (by decide +kernel) ⟨Nat.le_of_ble_eq_true rfl, Nat.le_of_ble_eq_true rfl⟩) ⟨En.blind, va_recv hK hP (ci := 12) (q0 := 0) rfl rfl, fun U hU hW => ⟨rfl, En.of hU hW hP hK hD hN⟩⟩ rfl rfl hl.1 rfl (lv_room (Nat.le_of_ble_eq_true rfl)) dX12_readTune_20 ⟨Nat.le_of_ble_eq_true rfl, Nat.le_of_ble_eq_true rfl⟩) hS (fun q _ h => hFc q h) hFc (fun r_u_10 u_10 t9 H locs ht9 hvm hw hB hz1 hk1 hS => ?_)
  have hP := fr_keep hP hk1
  have wu_10 := hw
  clear hFc hk1 hz1 hB hw
  refine W.widen (k := 0) (n := 0) (Nat.le_of_ble_eq_true rfl) (Nat.le_of_ble_eq_true rfl) ?_
  have jn_11 : ∀ (y0_11 : Int32) (H : Heap) (locs : List Loc) (ls : Array Slot), (0 ≤ y0_11.toInt ∧ y0_11.toInt ≤ 1) → va_P G vwCl (WMs cy mo h v nm f g) H → va_D A (WMs cy mo h v nm f g) → va_S A s.heap H locs → lv_has ls 6 [(1, .int v_8), (0, .ref mo)] → W p l e (headSpec (.code yX12_readTune cX12_readTune 6 none :: TBg) ({ frames := 4, cells := 0, slots := 0, locals := 256 })).room s m ([.ref mo] : List Value).toArray below meth c H locs 0 0 (MQ below (va_Qv (fun (u : (Nat → Int32) × Int64 × (Nat → Nat → Int32) × (Nat → Nat → Int64)) => MIv T u.1 ∧ MIf u.2.2.1 ∧ RI u.1 u.2.2.1 ∧ WL u.1 u.2.2.1 ∧ FV [4, 5, 6, 7, 8, 9] v u.1 ∧ FF [11, 15, 16, 17] f u.2.2.1 ∧ (((u.1 7).toInt ≤ (v 3).toInt ∧ ((u.1 4).toInt ≠ 0 ∨ (v 4).toInt = 0))) ∧ (0 ≤ mz (v 3).toInt (u.1 7).toInt (u.1 8).toInt ∧ mz (v 3).toInt (u.1 7).toInt (u.1 8).toInt ≤ mz (v 3).toInt (v 7).toInt (v 8).toInt)) (fun u t => Ex G A (WMs cy mo h u.1 u.2.1 u.2.2.1 u.2.2.2) t) A) ([.ref mo] : List Value).toArray s 0 0 A) (F0 m 31 ls [.int y0_11, .ref mo]) := by
    intro y0_11 H locs ls qf11_0 hP hD hS hl
    have hFc := fr_free hD hS hA
    refine va_calll (va_runV (As := [.int y0_11]) (rest := []) ⟨hx, hb, hml, hown, ht⟩ (m_fresh l G cy _ mo h T v nm f g y0_11  hv hf hR hL (by omega) (show (v 7).toInt ≤ (v 3).toInt from by omega)) (cwV 1 ht (gv k_284 k_285 k_286 k_61 k_283) rfl rfl rfl (by decide +kernel) ⟨Nat.le_of_ble_eq_true rfl, Nat.le_of_ble_eq_true rfl⟩) ⟨En.blind, va_recv hK hP (ci := 12) (q0 := 0) rfl rfl, fun U hU hW => ⟨rfl, En.of hU hW hP hK hD hN⟩⟩ rfl rfl hl.1 rfl (lv_room (Nat.le_of_ble_eq_true rfl)) dX12_readTune_31 ⟨Nat.le_of_ble_eq_true rfl, Nat.le_of_ble_eq_true rfl⟩) hS (fun q _ h => hFc q h) hFc (fun r_u_12 u_12 t9 H locs ht9 hvm hw hB hz1 hk1 hS => ?_)
    obtain ⟨v12, nm12⟩ := u_12
    obtain ⟨hP1, hD1⟩ := hB
    rw [ht9] at hP1
    obtain ⟨hv, xu_12V, wu_12, xu_12_M⟩ := hw
    dsimp only at hv xu_12V wu_12 xu_12_M
    have hP : va_P G vwCl (WMs cy mo h v12 nm12 f g) H := hP1
    have hD : va_D A (WMs cy mo h v12 nm12 f g) := hD1.weaken (fun _ _ _ h => hFc _ h)
    replace hR : RI v12 f := RI.fv hR xu_12V (by decide)
    replace hL : WL v12 f := WL.fv hL xu_12V (by decide) (by decide)
    replace hV_0 := FV.tr hV_0 xu_12V (by decide)
    clear hFc hk1 hz1 hP1 hD1
    replace wu_12 : ((v12 7).toInt ≤ (v 3).toInt ∧ ((v12 4).toInt ≠ 0 ∨ (v 4).toInt = 0)) := wu_12
    replace xu_12_M : 0 ≤ mz (v 3).toInt (v12 7).toInt (v12 8).toInt ∧ mz (v 3).toInt (v12 7).toInt (v12 8).toInt ≤ mz (v 3).toInt (v 7).toInt (v 8).toInt := by
      have h9 : 0 ≤ mz (v 3).toInt (v12 7).toInt (v12 8).toInt ∧ mz (v 3).toInt (v12 7).toInt (v12 8).toInt ≤ mz (v 3).toInt (v 7).toInt (v 8).toInt := xu_12_M
      exact h9
    refine lv_lstore_n (lv' := [(2, .long r_u_12), (1, .int v_8), (0, .ref mo)]) hx hb dX12_readTune_34 rfl hl (by decide) rfl (fun ls hl => ?_)
    refine lv_aload_n hx hb dX12_readTune_35 rfl (lv_at hl 2 rfl) ?_
    refine lv_aload_n hx hb dX12_readTune_36 rfl (lv_at hl 2 rfl) ?_
    refine lv_ldc2 (v := 28518) hx hb hown (ht _ k_199) dX12_readTune_37 ?_
    have hFc := fr_new hS hA
    refine va_calli (va_runV (As := [.long (28518 : Int64)]) (rest := [.ref mo]) ⟨hx, hb, hml, hown, ht⟩ (m_isWord l G cy _ mo h T v12 nm12 f g (28518 : Int64)  hv hf hR hL) (cwV 1 ht (gv k_240 k_241 k_242 k_61 k_239) rfl rfl rfl (by decide +kernel) ⟨Nat.le_of_ble_eq_true rfl, Nat.le_of_ble_eq_true rfl⟩) ⟨En.blind, va_recv hK hP (ci := 12) (q0 := 0) rfl rfl, fun U hU hW => ⟨rfl, En.of hU hW hP hK hD hN⟩⟩ rfl rfl hl.1 rfl (lv_room (Nat.le_of_ble_eq_true rfl)) dX12_readTune_40 ⟨Nat.le_of_ble_eq_true rfl, Nat.le_of_ble_eq_true rfl⟩) hS (fun q _ h => hFc q h) hFc (fun r_u_13 u_13 t9 H locs ht9 hvm hw hB hz1 hk1 hS => ?_)
    have hP := fr_keep hP hk1
    obtain ⟨wu_13, xu_13_W⟩ := hw
    clear hFc hk1 hz1 hB
    replace wu_13 : (r_u_13.toInt = 0 ∨ r_u_13.toInt = 1) ∧ (r_u_13.toInt = 0 ∨ (v12 8).toInt = 3) := wu_13
    replace xu_13_W : (r_u_13.toInt = 1 → nm12 = (28518 : Int64)) ∧ (r_u_13.toInt = 0 → (v12 8).toInt = 3 → ¬ nm12 = (28518 : Int64)) := by
      have h9 : (r_u_13.toInt = 1 → nm12 = (28518 : Int64)) ∧ (r_u_13.toInt = 0 → (v12 8).toInt = 3 → ¬ nm12 = (28518 : Int64)) := xu_13_W
      exact h9
    have hFc := fr_free hD hS hA
    refine va_callv (va_runV (As := [.int r_u_13]) (rest := []) ⟨hx, hb, hml, hown, ht⟩ (m_must l G cy _ mo h T v12 nm12 f g r_u_13  hv hf hR hL (by omega) (show (v12 7).toInt ≤ (v12 3).toInt from by rw [(show v12 3 = (v 3) from (xu_12V 3 (by decide)))]; omega)) (cwV 1 ht (gv k_268 k_269 k_270 k_61 k_267) rfl rfl rfl (by decide +kernel) ⟨Nat.le_of_ble_eq_true rfl, Nat.le_of_ble_eq_true rfl⟩) ⟨En.blind, va_recv hK hP (ci := 12) (q0 := 0) rfl rfl, fun U hU hW => ⟨rfl, En.of hU hW hP hK hD hN⟩⟩ rfl rfl hl.1 rfl (lv_room (Nat.le_of_ble_eq_true rfl)) dX12_readTune_43 ⟨Nat.le_of_ble_eq_true rfl, Nat.le_of_ble_eq_true rfl⟩) hS (fun q _ h => hFc q h) hFc (fun u_14 t9 H locs ht9 hvm hw hB hz1 hk1 hS => ?_)
    obtain ⟨v14, nm14⟩ := u_14
    obtain ⟨hP1, hD1⟩ := hB
    rw [ht9] at hP1
    obtain ⟨hv, xu_14V, wu_14, xu_14_M⟩ := hw
    dsimp only at hv xu_14V wu_14 xu_14_M
    have hP : va_P G vwCl (WMs cy mo h v14 nm14 f g) H := hP1
    have hD : va_D A (WMs cy mo h v14 nm14 f g) := hD1.weaken (fun _ _ _ h => hFc _ h)
    replace hR : RI v14 f := RI.fv hR xu_14V (by decide)
    replace hL : WL v14 f := WL.fv hL xu_14V (by decide) (by decide)
    replace hV_0 := FV.tr hV_0 xu_14V (by decide)
    clear hFc hk1 hz1 hP1 hD1
    replace wu_14 : ((v14 7).toInt ≤ (v 3).toInt ∧ ((v14 4).toInt ≠ 0 ∨ (v12 4).toInt = 0)) := by
      have h9 : ((v14 7).toInt ≤ (v12 3).toInt ∧ ((v14 4).toInt ≠ 0 ∨ (v12 4).toInt = 0)) := wu_14
      rw [(show v12 3 = (v 3) from (xu_12V 3 (by decide)))] at h9
      exact h9
    replace xu_14_M : 0 ≤ mz (v 3).toInt (v14 7).toInt (v14 8).toInt ∧ mz (v 3).toInt (v14 7).toInt (v14 8).toInt ≤ mz (v 3).toInt (v12 7).toInt (v12 8).toInt := by
      have h9 : 0 ≤ mz (v12 3).toInt (v14 7).toInt (v14 8).toInt ∧ mz (v12 3).toInt (v14 7).toInt (v14 8).toInt ≤ mz (v12 3).toInt (v12 7).toInt (v12 8).toInt := xu_14_M
      rw [(show v12 3 = (v 3) from (xu_12V 3 (by decide)))] at h9
      exact h9
    refine lv_aload_n hx hb dX12_readTune_46 rfl (lv_at hl 2 rfl) ?_
    refine mg_15 hx hb ht hown hK hP dX12_readTune_47 ?_
    refine lv_iload_n hx hb dX12_readTune_50 rfl (lv_at hl 1 rfl) ?_
    refine lv_iconst (v := 0) hx hb dX12_readTune_51 (by decide) ?_
    have q_15 : vp_in v_8 30 := vp_in_iff.mpr ⟨by omega, by omega⟩
    refine ms_15 hx hb hK hP hD hS q_15 dX12_readTune_52 (fun H locs hP hD hS => ?_)
    replace hf := MIf.up 15 (i := (Int32.toNatClampNeg v_8)) hf (show 0 ≤ (0 : Int32).toInt ∧ (0 : Int32).toInt ≤ 12 from by omega)
    replace hF_0 := FF.up hF_0 15 (upd (f 15) (Int32.toNatClampNeg v_8) 0) (by decide)
    replace hL : WL v14 (va_up f 15 (upd (f 15) (Int32.toNatClampNeg v_8) 0)) := WL.upf 15 hL (by decide)
    replace hR : RI v14 (va_up f 15 (upd (f 15) (Int32.toNatClampNeg v_8) 0)) := RI.up 15 hR (by decide)
    refine W.widen (k := 0) (n := 0) (Nat.le_of_ble_eq_true rfl) (Nat.le_of_ble_eq_true rfl) ?_
    have lp_16 : ∀ (N_16 : Nat) (v16 : Nat → Int32) (nm16 : Int64) (f16 : Nat → Nat → Int32) (g16 : Nat → Nat → Int64) (H : Heap) (locs : List Loc) (ls : Array Slot), MIv T v16 → MIf f16 → RI v16 f16 → WL v16 f16 → FV [4, 5, 6, 7, 8, 9] v14 v16 → FF [15, 16, 17] (va_up f 15 (upd (f 15) (Int32.toNatClampNeg v_8) 0)) f16 → ((v16 7).toInt ≤ (v 3).toInt ∧ ((v16 4).toInt ≠ 0 ∨ (v 4).toInt = 0) ∧ 0 ≤ mz (v 3).toInt (v16 7).toInt (v16 8).toInt ∧ mz (v 3).toInt (v16 7).toInt (v16 8).toInt ≤ mz (v 3).toInt (v 7).toInt (v 8).toInt) → (mz (v 3).toInt (v16 7).toInt (v16 8).toInt).toNat < N_16 → va_P G vwCl (WMs cy mo h v16 nm16 f16 g16) H → va_D A (WMs cy mo h v16 nm16 f16 g16) → va_S A s.heap H locs → lv_has ls 6 [(2, .long r_u_12), (1, .int v_8), (0, .ref mo)] → W p l e (headSpec (.code yX12_readTune cX12_readTune 6 none :: TBg) ({ frames := 4, cells := 0, slots := 0, locals := 256 })).room s m ([.ref mo] : List Value).toArray below meth c H locs 0 0 (MQ below (va_Qv (fun (u : (Nat → Int32) × Int64 × (Nat → Nat → Int32) × (Nat → Nat → Int64)) => MIv T u.1 ∧ MIf u.2.2.1 ∧ RI u.1 u.2.2.1 ∧ WL u.1 u.2.2.1 ∧ FV [4, 5, 6, 7, 8, 9] v u.1 ∧ FF [11, 15, 16, 17] f u.2.2.1 ∧ (((u.1 7).toInt ≤ (v 3).toInt ∧ ((u.1 4).toInt ≠ 0 ∨ (v 4).toInt = 0))) ∧ (0 ≤ mz (v 3).toInt (u.1 7).toInt (u.1 8).toInt ∧ mz (v 3).toInt (u.1 7).toInt (u.1 8).toInt ≤ mz (v 3).toInt (v 7).toInt (v 8).toInt)) (fun u t => Ex G A (WMs cy mo h u.1 u.2.1 u.2.2.1 u.2.2.2) t) A) ([.ref mo] : List Value).toArray s 0 0 A) (F0 m 53 ls []) := by
      intro N_16
      induction N_16 with
      | zero => intro v16 nm16 f16 g16 H locs ls hv hf hR hL hV_16 hF_16 qf16_0 hm hP hD hS hl; exact absurd hm (Nat.not_lt_zero _)
      | succ N_16 ih_16 =>
        intro v16 nm16 f16 g16 H locs ls hv hf hR hL hV_16 hF_16 qf16_0 hm hP hD hS hl
        replace hV_0 := FV.tr hV_0 hV_16 (by decide)
        replace hF_0 := FF.tr hF_0 hF_16 (by decide)
        replace hW_16 := hV_16
        replace hY_16 := hF_16
        refine lv_aload_n hx hb dX12_readTune_53 rfl (lv_at hl 2 rfl) ?_
        have hFc := fr_new hS hA
        refine va_calli (va_runV (As := []) (rest := []) ⟨hx, hb, hml, hown, ht⟩ (m_isGood l G cy _ mo h T v16 nm16 f16 g16   hv hf hR hL) (cwV 0 ht (gv k_224 k_225 k_226 k_61 k_223) rfl rfl rfl (by decide +kernel) ⟨Nat.le_of_ble_eq_true rfl, Nat.le_of_ble_eq_true rfl⟩) ⟨En.blind, va_recv hK hP (ci := 12) (q0 := 0) rfl rfl, fun U hU hW => ⟨rfl, En.of hU hW hP hK hD hN⟩⟩ rfl rfl hl.1 rfl (lv_room (Nat.le_of_ble_eq_true rfl)) dX12_readTune_54 ⟨Nat.le_of_ble_eq_true rfl, Nat.le_of_ble_eq_true rfl⟩) hS (fun q _ h => hFc q h) hFc (fun r_u_17 u_17 t9 H locs ht9 hvm hw hB hz1 hk1 hS => ?_)
        have hP := fr_keep hP hk1
        have wu_17 := hw
        clear hFc hk1 hz1 hB hw
        replace wu_17 : (r_u_17.toInt = 0 ∨ r_u_17.toInt = 1) ∧ ((r_u_17.toInt = 1 ∧ (v16 4).toInt = 0) ∨ (r_u_17.toInt = 0 ∧ (v16 4).toInt ≠ 0)) := wu_17
        refine lv_if_eq (tgt := 167) hx hb dX12_readTune_57 (by decide) (fun c_18 => ?_) (fun c_18 => ?_)
        · have q_19 : r_u_17.toInt = (0 : Int32).toInt := (ow_eq _ _).mp c_18
          refine lv_aload_n hx hb dX12_readTune_167 rfl (lv_at hl 2 rfl) ?_
          refine mg_22 hx hb ht hown hK hP dX12_readTune_168 ?_
          refine lv_iload_n hx hb dX12_readTune_171 rfl (lv_at hl 1 rfl) ?_
          refine lv_lload_n hx hb dX12_readTune_172 rfl (lv_at hl 0 rfl) ?_
          have q_20 : vp_in v_8 28 := vp_in_iff.mpr ⟨by omega, by omega⟩
          refine ms_22 hx hb hK hP hD hS q_20 dX12_readTune_173 (fun H locs hP hD hS => ?_)
          refine lv_aload_n hx hb dX12_readTune_174 rfl (lv_at hl 2 rfl) ?_
          refine mg_11 hx hb ht hown hK hP dX12_readTune_175 ?_
          refine lv_aload_n hx hb dX12_readTune_178 rfl (lv_at hl 2 rfl) ?_
          refine mg_30 hx hb ht hown hK hP dX12_readTune_179 ?_
          refine ow_top (v 30) ((hV_16 30 (by decide)).trans ((xu_14V 30 (by decide)).trans (xu_12V 30 (by decide)))) ?_
          have q_21 : 0 ≤ (v 30).toInt ∧ (v 30).toInt ≤ 1 := by have h9 : v16 30 = (v 30) := ((hV_16 30 (by decide)).trans ((xu_14V 30 (by decide)).trans (xu_12V 30 (by decide)))); rw [← h9]; exact hv 30
          refine lv_dup2_11 hx hb dX12_readTune_182 rfl rfl ?_
          have q_22 : vp_in (v 30) 2 := vp_in_iff.mpr ⟨by omega, by omega⟩
          refine ml_11 hx hb hK hP q_22 dX12_readTune_183 ?_
          refine lv_topi (fun v_23 ev_23 => ?_)
          have q_24 : 0 ≤ v_23.toInt ∧ v_23.toInt ≤ 14 := by rw [ev_23]; exact MIf.rd 11 hf q_22
          have q_25 : v_23.toInt = ((f 11) (Int32.toNatClampNeg (v 30))).toInt := (congrArg Int32.toInt ev_23).trans (congrArg (fun z : Nat → Int32 => (z (Int32.toNatClampNeg (v 30))).toInt) (show f16 11 = (f 11) from (hF_16 11 (by decide))))
          refine lv_iconst (v := 1) hx hb dX12_readTune_184 (by decide) ?_
          refine lv_iadd hx hb dX12_readTune_185 ?_
          refine lv_topi (fun v_26 ev_26 => ?_)
          have q_27 : v_26.toInt = v_23.toInt + (1 : Int32).toInt := ow_add ev_26 (by omega) (by omega)
          have q_28 : vp_in (v 30) 2 := vp_in_iff.mpr ⟨by omega, by omega⟩
          refine ms_11 hx hb hK hP hD hS q_28 dX12_readTune_186 (fun H locs hP hD hS => ?_)
          replace hf := MIf.up 11 (i := (Int32.toNatClampNeg (v 30))) hf (show 0 ≤ v_26.toInt ∧ v_26.toInt ≤ 14 from by omega)
          replace hF_0 := FF.up hF_0 11 (upd (f16 11) (Int32.toNatClampNeg (v 30)) v_26) (by decide)
          replace hL : WL v16 (va_up f16 11 (upd (f16 11) (Int32.toNatClampNeg (v 30)) v_26)) := WL.upf 11 hL (by decide)
          replace hR : RI v16 (va_up f16 11 (upd (f16 11) (Int32.toNatClampNeg (v 30)) v_26)) := RI.up 11 hR (by decide)
          refine W.widen (k := 0) (n := 0) (Nat.le_of_ble_eq_true rfl) (Nat.le_of_ble_eq_true rfl) ?_
          exact W.vret hx hb hr (fun t ht9 hW => ⟨⟨(v16, nm16, (va_up f16 11 (upd (f16 11) (Int32.toNatClampNeg (v 30)) v_26)), (va_up g16 22 (vp_updL (g16 22) (Int32.toNatClampNeg v_8) r_u_12))), rfl, ⟨hv, hf, hR, hL, hV_0, hF_0, (show (v16 7).toInt ≤ (v 3).toInt ∧ ((v16 4).toInt ≠ 0 ∨ (v 4).toInt = 0) from by first | omega | (subst_vars; first | rfl | omega)), (show 0 ≤ mz (v 3).toInt (v16 7).toInt (v16 8).toInt ∧ mz (v 3).toInt (v16 7).toInt (v16 8).toInt ≤ mz (v 3).toInt (v 7).toInt (v 8).toInt from by omega)⟩, ⟨by rw [ht9]; exact hP, hD⟩⟩, hS.F ht9⟩) hS.2.2 dX12_readTune_187
        · have q_29 : ¬ r_u_17.toInt = (0 : Int32).toInt := by have := (not_congr (ow_eq _ _)).mp c_18; omega
          refine lv_aload_n hx hb dX12_readTune_60 rfl (lv_at hl 2 rfl) ?_
          refine mg_15 hx hb ht hown hK hP dX12_readTune_61 ?_
          refine lv_iload_n hx hb dX12_readTune_64 rfl (lv_at hl 1 rfl) ?_
          have q_30 : vp_in v_8 30 := vp_in_iff.mpr ⟨by omega, by omega⟩
          refine ml_15 hx hb hK hP q_30 dX12_readTune_65 ?_
          refine lv_topi (fun v_31 ev_31 => ?_)
          have q_32 : 0 ≤ v_31.toInt ∧ v_31.toInt ≤ 12 := by rw [ev_31]; exact MIf.rd 15 hf q_30
          have q_33 : v_31.toInt = ((f16 15) (Int32.toNatClampNeg v_8)).toInt := (congrArg Int32.toInt ev_31).trans (congrArg (fun z : Nat → Int32 => (z (Int32.toNatClampNeg v_8)).toInt) (show f16 15 = (f16 15) from rfl))
          refine lv_if_eq (tgt := 77) hx hb dX12_readTune_66 (by decide) (fun c_34 => ?_) (fun c_34 => ?_)
          · have q_35 : v_31.toInt = (0 : Int32).toInt := (ow_eq _ _).mp c_34
            refine lv_aload_n hx hb dX12_readTune_77 rfl (lv_at hl 2 rfl) ?_
            refine mg_15 hx hb ht hown hK hP dX12_readTune_78 ?_
            refine lv_iload_n hx hb dX12_readTune_81 rfl (lv_at hl 1 rfl) ?_
            refine ml_15 hx hb hK hP q_30 dX12_readTune_82 ?_
            refine ow_top v_31 ev_31.symm ?_
            refine lv_bipush (v := 12) hx hb dX12_readTune_83 (by decide) ?_
            refine lv_icmp_ne (tgt := 92) hx hb dX12_readTune_85 (by decide) (fun c_36 => ?_) (fun c_36 => ?_)
            · have q_37 : ¬ v_31.toInt = (12 : Int32).toInt := by have := (not_congr (ow_eq _ _)).mp c_36; omega
              refine lv_aload_n hx hb dX12_readTune_92 rfl (lv_at hl 2 rfl) ?_
              refine lv_iconst (v := 0) hx hb dX12_readTune_93 (by decide) ?_
              refine lv_bipush (v := 60) hx hb dX12_readTune_94 (by decide) ?_
              have hFc := fr_free hD hS hA
              refine va_calli (va_runV (As := [.int 0, .int 60]) (rest := []) ⟨hx, hb, hml, hown, ht⟩ (m_numeral l G cy _ mo h T v16 nm16 f16 g16 (0) (60)  hv hf hR hL (show (0 : Int32).toInt ≤ (60 : Int32).toInt from by omega) (show (v16 7).toInt ≤ (v16 3).toInt from by rw [(show v16 3 = (v 3) from ((hV_16 3 (by decide)).trans ((xu_14V 3 (by decide)).trans (xu_12V 3 (by decide)))))]; omega)) (cwV 2 ht (gv k_288 k_289 k_290 k_61 k_287) rfl rfl rfl (by decide +kernel) ⟨Nat.le_of_ble_eq_true rfl, Nat.le_of_ble_eq_true rfl⟩) ⟨En.blind, va_recv hK hP (ci := 12) (q0 := 0) rfl rfl, fun U hU hW => ⟨rfl, En.of hU hW hP hK hD hN⟩⟩ rfl rfl hl.1 rfl (lv_room (Nat.le_of_ble_eq_true rfl)) dX12_readTune_96 ⟨Nat.le_of_ble_eq_true rfl, Nat.le_of_ble_eq_true rfl⟩) hS (fun q _ h => hFc q h) hFc (fun r_u_38 u_38 t9 H locs ht9 hvm hw hB hz1 hk1 hS => ?_)
              obtain ⟨v38, nm38⟩ := u_38
              obtain ⟨hP1, hD1⟩ := hB
              rw [ht9] at hP1
              obtain ⟨hv, xu_38V, wu_38, xu_38_M⟩ := hw
              dsimp only at hv xu_38V wu_38 xu_38_M
              have hP : va_P G vwCl (WMs cy mo h v38 nm38 f16 g16) H := hP1
              have hD : va_D A (WMs cy mo h v38 nm38 f16 g16) := hD1.weaken (fun _ _ _ h => hFc _ h)
              replace hR : RI v38 f16 := RI.fv hR xu_38V (by decide)
              replace hL : WL v38 f16 := WL.fv hL xu_38V (by decide) (by decide)
              replace hV_0 := FV.tr hV_0 xu_38V (by decide)
              replace hW_16 := FV.tr hW_16 xu_38V (by decide)
              clear hFc hk1 hz1 hP1 hD1
              replace wu_38 : ((0 : Int32).toInt ≤ r_u_38.toInt ∧ r_u_38.toInt ≤ (60 : Int32).toInt ∧ (v38 7).toInt ≤ (v 3).toInt ∧ ((v38 4).toInt ≠ 0 ∨ ((v16 4).toInt = 0 ∧ (v16 8).toInt = 4))) := by
                have h9 : ((0 : Int32).toInt ≤ r_u_38.toInt ∧ r_u_38.toInt ≤ (60 : Int32).toInt ∧ (v38 7).toInt ≤ (v16 3).toInt ∧ ((v38 4).toInt ≠ 0 ∨ ((v16 4).toInt = 0 ∧ (v16 8).toInt = 4))) := wu_38
                rw [(show v16 3 = (v 3) from ((hV_16 3 (by decide)).trans ((xu_14V 3 (by decide)).trans (xu_12V 3 (by decide)))))] at h9
                exact h9
              replace xu_38_M : 0 ≤ mz (v 3).toInt (v38 7).toInt (v38 8).toInt ∧ mz (v 3).toInt (v38 7).toInt (v38 8).toInt ≤ mz (v 3).toInt (v16 7).toInt (v16 8).toInt ∧ ((v38 4).toInt ≠ 0 ∨ mz (v 3).toInt (v38 7).toInt (v38 8).toInt < mz (v 3).toInt (v16 7).toInt (v16 8).toInt) := by
                have h9 : 0 ≤ mz (v16 3).toInt (v38 7).toInt (v38 8).toInt ∧ mz (v16 3).toInt (v38 7).toInt (v38 8).toInt ≤ mz (v16 3).toInt (v16 7).toInt (v16 8).toInt ∧ ((v38 4).toInt ≠ 0 ∨ mz (v16 3).toInt (v38 7).toInt (v38 8).toInt < mz (v16 3).toInt (v16 7).toInt (v16 8).toInt) := xu_38_M
                rw [(show v16 3 = (v 3) from ((hV_16 3 (by decide)).trans ((xu_14V 3 (by decide)).trans (xu_12V 3 (by decide)))))] at h9
                exact h9
              refine lv_istore (lv' := [(4, .int r_u_38), (2, .long r_u_12), (1, .int v_8), (0, .ref mo)]) hx hb dX12_readTune_99 hl (by decide) rfl (fun ls hl => ?_)
              refine lv_aload_n hx hb dX12_readTune_101 rfl (lv_at hl 3 rfl) ?_
              refine lv_iconst (v := 1) hx hb dX12_readTune_102 (by decide) ?_
              refine lv_bipush (v := 9) hx hb dX12_readTune_103 (by decide) ?_
              have hFc := fr_free hD hS hA
              refine va_calli (va_runV (As := [.int 1, .int 9]) (rest := []) ⟨hx, hb, hml, hown, ht⟩ (m_numeral l G cy _ mo h T v38 nm38 f16 g16 (1) (9)  hv hf hR hL (show (1 : Int32).toInt ≤ (9 : Int32).toInt from by omega) (show (v38 7).toInt ≤ (v38 3).toInt from by rw [(show v38 3 = (v 3) from ((xu_38V 3 (by decide)).trans ((hV_16 3 (by decide)).trans ((xu_14V 3 (by decide)).trans (xu_12V 3 (by decide))))))]; omega)) (cwV 2 ht (gv k_288 k_289 k_290 k_61 k_287) rfl rfl rfl (by decide +kernel) ⟨Nat.le_of_ble_eq_true rfl, Nat.le_of_ble_eq_true rfl⟩) ⟨En.blind, va_recv hK hP (ci := 12) (q0 := 0) rfl rfl, fun U hU hW => ⟨rfl, En.of hU hW hP hK hD hN⟩⟩ rfl rfl hl.1 rfl (lv_room (Nat.le_of_ble_eq_true rfl)) dX12_readTune_105 ⟨Nat.le_of_ble_eq_true rfl, Nat.le_of_ble_eq_true rfl⟩) hS (fun q _ h => hFc q h) hFc (fun r_u_39 u_39 t9 H locs ht9 hvm hw hB hz1 hk1 hS => ?_)
              obtain ⟨v39, nm39⟩ := u_39
              obtain ⟨hP1, hD1⟩ := hB
              rw [ht9] at hP1
              obtain ⟨hv, xu_39V, wu_39, xu_39_M⟩ := hw
              dsimp only at hv xu_39V wu_39 xu_39_M
              have hP : va_P G vwCl (WMs cy mo h v39 nm39 f16 g16) H := hP1
              have hD : va_D A (WMs cy mo h v39 nm39 f16 g16) := hD1.weaken (fun _ _ _ h => hFc _ h)
              replace hR : RI v39 f16 := RI.fv hR xu_39V (by decide)
              replace hL : WL v39 f16 := WL.fv hL xu_39V (by decide) (by decide)
              replace hV_0 := FV.tr hV_0 xu_39V (by decide)
              replace hW_16 := FV.tr hW_16 xu_39V (by decide)
              clear hFc hk1 hz1 hP1 hD1
              replace wu_39 : ((1 : Int32).toInt ≤ r_u_39.toInt ∧ r_u_39.toInt ≤ (9 : Int32).toInt ∧ (v39 7).toInt ≤ (v 3).toInt ∧ ((v39 4).toInt ≠ 0 ∨ ((v38 4).toInt = 0 ∧ (v38 8).toInt = 4))) := by
                have h9 : ((1 : Int32).toInt ≤ r_u_39.toInt ∧ r_u_39.toInt ≤ (9 : Int32).toInt ∧ (v39 7).toInt ≤ (v38 3).toInt ∧ ((v39 4).toInt ≠ 0 ∨ ((v38 4).toInt = 0 ∧ (v38 8).toInt = 4))) := wu_39
                rw [(show v38 3 = (v 3) from ((xu_38V 3 (by decide)).trans ((hV_16 3 (by decide)).trans ((xu_14V 3 (by decide)).trans (xu_12V 3 (by decide))))))] at h9
                exact h9
              replace xu_39_M : 0 ≤ mz (v 3).toInt (v39 7).toInt (v39 8).toInt ∧ mz (v 3).toInt (v39 7).toInt (v39 8).toInt ≤ mz (v 3).toInt (v38 7).toInt (v38 8).toInt ∧ ((v39 4).toInt ≠ 0 ∨ mz (v 3).toInt (v39 7).toInt (v39 8).toInt < mz (v 3).toInt (v38 7).toInt (v38 8).toInt) := by
                have h9 : 0 ≤ mz (v38 3).toInt (v39 7).toInt (v39 8).toInt ∧ mz (v38 3).toInt (v39 7).toInt (v39 8).toInt ≤ mz (v38 3).toInt (v38 7).toInt (v38 8).toInt ∧ ((v39 4).toInt ≠ 0 ∨ mz (v38 3).toInt (v39 7).toInt (v39 8).toInt < mz (v38 3).toInt (v38 7).toInt (v38 8).toInt) := xu_39_M
                rw [(show v38 3 = (v 3) from ((xu_38V 3 (by decide)).trans ((hV_16 3 (by decide)).trans ((xu_14V 3 (by decide)).trans (xu_12V 3 (by decide))))))] at h9
                exact h9
              refine lv_istore (lv' := [(5, .int r_u_39), (4, .int r_u_38), (2, .long r_u_12), (1, .int v_8), (0, .ref mo)]) hx hb dX12_readTune_108 hl (by decide) rfl (fun ls hl => ?_)
              refine lv_aload_n hx hb dX12_readTune_110 rfl (lv_at hl 4 rfl) ?_
              have hFc := fr_new hS hA
              refine va_calli (va_runV (As := []) (rest := []) ⟨hx, hb, hml, hown, ht⟩ (m_isGood l G cy _ mo h T v39 nm39 f16 g16   hv hf hR hL) (cwV 0 ht (gv k_224 k_225 k_226 k_61 k_223) rfl rfl rfl (by decide +kernel) ⟨Nat.le_of_ble_eq_true rfl, Nat.le_of_ble_eq_true rfl⟩) ⟨En.blind, va_recv hK hP (ci := 12) (q0 := 0) rfl rfl, fun U hU hW => ⟨rfl, En.of hU hW hP hK hD hN⟩⟩ rfl rfl hl.1 rfl (lv_room (Nat.le_of_ble_eq_true rfl)) dX12_readTune_111 ⟨Nat.le_of_ble_eq_true rfl, Nat.le_of_ble_eq_true rfl⟩) hS (fun q _ h => hFc q h) hFc (fun r_u_40 u_40 t9 H locs ht9 hvm hw hB hz1 hk1 hS => ?_)
              have hP := fr_keep hP hk1
              have wu_40 := hw
              clear hFc hk1 hz1 hB hw
              replace wu_40 : (r_u_40.toInt = 0 ∨ r_u_40.toInt = 1) ∧ ((r_u_40.toInt = 1 ∧ (v39 4).toInt = 0) ∨ (r_u_40.toInt = 0 ∧ (v39 4).toInt ≠ 0)) := wu_40
              refine lv_if_ne (tgt := 118) hx hb dX12_readTune_114 (by decide) (fun c_41 => ?_) (fun c_41 => ?_)
              · have q_42 : ¬ r_u_40.toInt = (0 : Int32).toInt := by have := (not_congr (ow_eq _ _)).mp c_41; omega
                refine lv_aload_n hx hb dX12_readTune_118 rfl (lv_at hl 4 rfl) ?_
                refine mg_16 hx hb ht hown hK hP dX12_readTune_119 ?_
                refine lv_bipush (v := 40) hx hb dX12_readTune_122 (by decide) ?_
                refine lv_iload_n hx hb dX12_readTune_124 rfl (lv_at hl 3 rfl) ?_
                refine lv_imul hx hb dX12_readTune_125 ?_
                refine lv_topi (fun v_43 ev_43 => ?_)
                have q_44 : v_43.toInt = 40 * v_8.toInt := ow_mul ev_43 (by decide) (by omega) (by omega)
                refine lv_aload_n hx hb dX12_readTune_126 rfl (lv_at hl 4 rfl) ?_
                refine mg_15 hx hb ht hown hK hP dX12_readTune_127 ?_
                refine lv_iload_n hx hb dX12_readTune_130 rfl (lv_at hl 3 rfl) ?_
                have q_45 : vp_in v_8 30 := vp_in_iff.mpr ⟨by omega, by omega⟩
                refine ml_15 hx hb hK hP q_45 dX12_readTune_131 ?_
                refine lv_topi (fun v_46 ev_46 => ?_)
                have q_47 : 0 ≤ v_46.toInt ∧ v_46.toInt ≤ 12 := by rw [ev_46]; exact MIf.rd 15 hf q_45
                have q_48 : v_46.toInt = ((f16 15) (Int32.toNatClampNeg v_8)).toInt := (congrArg Int32.toInt ev_46).trans (congrArg (fun z : Nat → Int32 => (z (Int32.toNatClampNeg v_8)).toInt) (show f16 15 = (f16 15) from rfl))
                refine lv_iadd hx hb dX12_readTune_132 ?_
                refine lv_topi (fun v_49 ev_49 => ?_)
                have q_50 : v_49.toInt = v_43.toInt + v_46.toInt := ow_add ev_49 (by omega) (by omega)
                refine lv_iload hx hb dX12_readTune_133 (lv_at hl 1 rfl) ?_
                have q_51 : vp_in v_49 1200 := vp_in_iff.mpr ⟨by omega, by omega⟩
                refine ms_16 hx hb hK hP hD hS q_51 dX12_readTune_135 (fun H locs hP hD hS => ?_)
                replace hf := MIf.up 16 (i := (Int32.toNatClampNeg v_49)) hf (ow_any r_u_38)
                replace hF_0 := FF.up hF_0 16 (upd (f16 16) (Int32.toNatClampNeg v_49) r_u_38) (by decide)
                replace hY_16 := FF.up hY_16 16 (upd (f16 16) (Int32.toNatClampNeg v_49) r_u_38) (by decide)
                replace hL : WL v39 (va_up f16 16 (upd (f16 16) (Int32.toNatClampNeg v_49) r_u_38)) := WL.upf 16 hL (by decide)
                replace hR : RI v39 (va_up f16 16 (upd (f16 16) (Int32.toNatClampNeg v_49) r_u_38)) := RI.up 16 hR (by decide)
                refine lv_aload_n hx hb dX12_readTune_136 rfl (lv_at hl 4 rfl) ?_
                refine mg_17 hx hb ht hown hK hP dX12_readTune_137 ?_
                refine lv_bipush (v := 40) hx hb dX12_readTune_140 (by decide) ?_
                refine lv_iload_n hx hb dX12_readTune_142 rfl (lv_at hl 3 rfl) ?_
                refine lv_imul hx hb dX12_readTune_143 ?_
                refine lv_topi (fun v_52 ev_52 => ?_)
                have q_53 : v_52.toInt = 40 * v_8.toInt := ow_mul ev_52 (by decide) (by omega) (by omega)
                refine lv_aload_n hx hb dX12_readTune_144 rfl (lv_at hl 4 rfl) ?_
                refine mg_15 hx hb ht hown hK hP dX12_readTune_145 ?_
                refine lv_iload_n hx hb dX12_readTune_148 rfl (lv_at hl 3 rfl) ?_
                have q_54 : vp_in v_8 30 := vp_in_iff.mpr ⟨by omega, by omega⟩
                refine ml_15 hx hb hK hP q_54 dX12_readTune_149 ?_
                refine lv_topi (fun v_55 ev_55 => ?_)
                have q_56 : 0 ≤ v_55.toInt ∧ v_55.toInt ≤ 12 := by rw [ev_55]; exact MIf.rd 15 hf q_54
                have q_57 : v_55.toInt = ((f16 15) (Int32.toNatClampNeg v_8)).toInt := (congrArg Int32.toInt ev_55).trans (congrArg (fun z : Nat → Int32 => (z (Int32.toNatClampNeg v_8)).toInt) (show (va_up f16 16 (upd (f16 16) (Int32.toNatClampNeg v_49) r_u_38)) 15 = (f16 15) from rfl))
                refine lv_iadd hx hb dX12_readTune_150 ?_
                refine lv_topi (fun v_58 ev_58 => ?_)
                have q_59 : v_58.toInt = v_52.toInt + v_55.toInt := ow_add ev_58 (by omega) (by omega)
                refine lv_iload hx hb dX12_readTune_151 (lv_at hl 0 rfl) ?_
                have q_60 : vp_in v_58 1200 := vp_in_iff.mpr ⟨by omega, by omega⟩
                refine ms_17 hx hb hK hP hD hS q_60 dX12_readTune_153 (fun H locs hP hD hS => ?_)
                replace hf := MIf.up 17 (i := (Int32.toNatClampNeg v_58)) hf (show 0 ≤ r_u_39.toInt ∧ r_u_39.toInt ≤ 9 from by omega)
                replace hF_0 := FF.up hF_0 17 (upd ((va_up f16 16 (upd (f16 16) (Int32.toNatClampNeg v_49) r_u_38)) 17) (Int32.toNatClampNeg v_58) r_u_39) (by decide)
                replace hY_16 := FF.up hY_16 17 (upd ((va_up f16 16 (upd (f16 16) (Int32.toNatClampNeg v_49) r_u_38)) 17) (Int32.toNatClampNeg v_58) r_u_39) (by decide)
                replace hL : WL v39 (va_up (va_up f16 16 (upd (f16 16) (Int32.toNatClampNeg v_49) r_u_38)) 17 (upd ((va_up f16 16 (upd (f16 16) (Int32.toNatClampNeg v_49) r_u_38)) 17) (Int32.toNatClampNeg v_58) r_u_39)) := WL.upf 17 hL (by decide)
                replace hR : RI v39 (va_up (va_up f16 16 (upd (f16 16) (Int32.toNatClampNeg v_49) r_u_38)) 17 (upd ((va_up f16 16 (upd (f16 16) (Int32.toNatClampNeg v_49) r_u_38)) 17) (Int32.toNatClampNeg v_58) r_u_39)) := RI.up 17 hR (by decide)
                refine lv_aload_n hx hb dX12_readTune_154 rfl (lv_at hl 4 rfl) ?_
                refine mg_15 hx hb ht hown hK hP dX12_readTune_155 ?_
                refine lv_iload_n hx hb dX12_readTune_158 rfl (lv_at hl 3 rfl) ?_
                refine lv_dup2_11 hx hb dX12_readTune_159 rfl rfl ?_
                have q_61 : vp_in v_8 30 := vp_in_iff.mpr ⟨by omega, by omega⟩
                refine ml_15 hx hb hK hP q_61 dX12_readTune_160 ?_
                refine lv_topi (fun v_62 ev_62 => ?_)
                have q_63 : 0 ≤ v_62.toInt ∧ v_62.toInt ≤ 12 := by rw [ev_62]; exact MIf.rd 15 hf q_61
                have q_64 : v_62.toInt = ((f16 15) (Int32.toNatClampNeg v_8)).toInt := (congrArg Int32.toInt ev_62).trans (congrArg (fun z : Nat → Int32 => (z (Int32.toNatClampNeg v_8)).toInt) (show (va_up (va_up f16 16 (upd (f16 16) (Int32.toNatClampNeg v_49) r_u_38)) 17 (upd ((va_up f16 16 (upd (f16 16) (Int32.toNatClampNeg v_49) r_u_38)) 17) (Int32.toNatClampNeg v_58) r_u_39)) 15 = (f16 15) from rfl))
                refine lv_iconst (v := 1) hx hb dX12_readTune_161 (by decide) ?_
                refine lv_iadd hx hb dX12_readTune_162 ?_
                refine lv_topi (fun v_65 ev_65 => ?_)
                have q_66 : v_65.toInt = v_62.toInt + (1 : Int32).toInt := ow_add ev_65 (by omega) (by omega)
                have q_67 : vp_in v_8 30 := vp_in_iff.mpr ⟨by omega, by omega⟩
                refine ms_15 hx hb hK hP hD hS q_67 dX12_readTune_163 (fun H locs hP hD hS => ?_)
                replace hf := MIf.up 15 (i := (Int32.toNatClampNeg v_8)) hf (show 0 ≤ v_65.toInt ∧ v_65.toInt ≤ 12 from by omega)
                replace hF_0 := FF.up hF_0 15 (upd ((va_up (va_up f16 16 (upd (f16 16) (Int32.toNatClampNeg v_49) r_u_38)) 17 (upd ((va_up f16 16 (upd (f16 16) (Int32.toNatClampNeg v_49) r_u_38)) 17) (Int32.toNatClampNeg v_58) r_u_39)) 15) (Int32.toNatClampNeg v_8) v_65) (by decide)
                replace hY_16 := FF.up hY_16 15 (upd ((va_up (va_up f16 16 (upd (f16 16) (Int32.toNatClampNeg v_49) r_u_38)) 17 (upd ((va_up f16 16 (upd (f16 16) (Int32.toNatClampNeg v_49) r_u_38)) 17) (Int32.toNatClampNeg v_58) r_u_39)) 15) (Int32.toNatClampNeg v_8) v_65) (by decide)
                replace hL : WL v39 (va_up (va_up (va_up f16 16 (upd (f16 16) (Int32.toNatClampNeg v_49) r_u_38)) 17 (upd ((va_up f16 16 (upd (f16 16) (Int32.toNatClampNeg v_49) r_u_38)) 17) (Int32.toNatClampNeg v_58) r_u_39)) 15 (upd ((va_up (va_up f16 16 (upd (f16 16) (Int32.toNatClampNeg v_49) r_u_38)) 17 (upd ((va_up f16 16 (upd (f16 16) (Int32.toNatClampNeg v_49) r_u_38)) 17) (Int32.toNatClampNeg v_58) r_u_39)) 15) (Int32.toNatClampNeg v_8) v_65)) := WL.upf 15 hL (by decide)
                replace hR : RI v39 (va_up (va_up (va_up f16 16 (upd (f16 16) (Int32.toNatClampNeg v_49) r_u_38)) 17 (upd ((va_up f16 16 (upd (f16 16) (Int32.toNatClampNeg v_49) r_u_38)) 17) (Int32.toNatClampNeg v_58) r_u_39)) 15 (upd ((va_up (va_up f16 16 (upd (f16 16) (Int32.toNatClampNeg v_49) r_u_38)) 17 (upd ((va_up f16 16 (upd (f16 16) (Int32.toNatClampNeg v_49) r_u_38)) 17) (Int32.toNatClampNeg v_58) r_u_39)) 15) (Int32.toNatClampNeg v_8) v_65)) := RI.up 15 hR (by decide)
                refine lv_goto (tgt := 53) hx hb dX12_readTune_164 (by decide) ?_
                refine W.widen (k := 0) (n := 0) (Nat.le_of_ble_eq_true rfl) (Nat.le_of_ble_eq_true rfl) ?_
                exact ih_16 v39 nm39 (va_up (va_up (va_up f16 16 (upd (f16 16) (Int32.toNatClampNeg v_49) r_u_38)) 17 (upd ((va_up f16 16 (upd (f16 16) (Int32.toNatClampNeg v_49) r_u_38)) 17) (Int32.toNatClampNeg v_58) r_u_39)) 15 (upd ((va_up (va_up f16 16 (upd (f16 16) (Int32.toNatClampNeg v_49) r_u_38)) 17 (upd ((va_up f16 16 (upd (f16 16) (Int32.toNatClampNeg v_49) r_u_38)) 17) (Int32.toNatClampNeg v_58) r_u_39)) 15) (Int32.toNatClampNeg v_8) v_65)) g16 _ _ _ hv hf hR hL hW_16 hY_16 (show (v39 7).toInt ≤ (v 3).toInt ∧ ((v39 4).toInt ≠ 0 ∨ (v 4).toInt = 0) ∧ 0 ≤ mz (v 3).toInt (v39 7).toInt (v39 8).toInt ∧ mz (v 3).toInt (v39 7).toInt (v39 8).toInt ≤ mz (v 3).toInt (v 7).toInt (v 8).toInt from by omega) (show (mz (v 3).toInt (v39 7).toInt (v39 8).toInt).toNat < N_16 from by omega) hP hD hS (lv_sub hl [2, 3, 4] rfl)
              · have q_68 : r_u_40.toInt = (0 : Int32).toInt := (ow_eq _ _).mp c_41
                refine W.widen (k := 0) (n := 0) (Nat.le_of_ble_eq_true rfl) (Nat.le_of_ble_eq_true rfl) ?_
                exact W.vret hx hb hr (fun t ht9 hW => ⟨⟨(v39, nm39, f16, g16), rfl, ⟨hv, hf, hR, hL, hV_0, hF_0, (show (v39 7).toInt ≤ (v 3).toInt ∧ ((v39 4).toInt ≠ 0 ∨ (v 4).toInt = 0) from by first | omega | (subst_vars; first | rfl | omega)), (show 0 ≤ mz (v 3).toInt (v39 7).toInt (v39 8).toInt ∧ mz (v 3).toInt (v39 7).toInt (v39 8).toInt ≤ mz (v 3).toInt (v 7).toInt (v 8).toInt from by omega)⟩, ⟨by rw [ht9]; exact hP, hD⟩⟩, hS.F ht9⟩) hS.2.2 dX12_readTune_117
            · have q_69 : v_31.toInt = (12 : Int32).toInt := (ow_eq _ _).mp c_36
              exfalso
              omega
          · have q_70 : ¬ v_31.toInt = (0 : Int32).toInt := by have := (not_congr (ow_eq _ _)).mp c_34; omega
            refine lv_aload_n hx hb dX12_readTune_69 rfl (lv_at hl 2 rfl) ?_
            refine mg_8 hx hb ht hown hK hP dX12_readTune_70 ?_
            refine lv_iconst (v := 4) hx hb dX12_readTune_73 (by decide) ?_
            refine lv_icmp_ne (tgt := 167) hx hb dX12_readTune_74 (by decide) (fun c_71 => ?_) (fun c_71 => ?_)
            · have q_72 : ¬ (v16 8).toInt = (4 : Int32).toInt := by have := (not_congr (ow_eq _ _)).mp c_71; omega
              refine lv_aload_n hx hb dX12_readTune_167 rfl (lv_at hl 2 rfl) ?_
              refine mg_22 hx hb ht hown hK hP dX12_readTune_168 ?_
              refine lv_iload_n hx hb dX12_readTune_171 rfl (lv_at hl 1 rfl) ?_
              refine lv_lload_n hx hb dX12_readTune_172 rfl (lv_at hl 0 rfl) ?_
              have q_73 : vp_in v_8 28 := vp_in_iff.mpr ⟨by omega, by omega⟩
              refine ms_22 hx hb hK hP hD hS q_73 dX12_readTune_173 (fun H locs hP hD hS => ?_)
              refine lv_aload_n hx hb dX12_readTune_174 rfl (lv_at hl 2 rfl) ?_
              refine mg_11 hx hb ht hown hK hP dX12_readTune_175 ?_
              refine lv_aload_n hx hb dX12_readTune_178 rfl (lv_at hl 2 rfl) ?_
              refine mg_30 hx hb ht hown hK hP dX12_readTune_179 ?_
              refine ow_top (v 30) ((hV_16 30 (by decide)).trans ((xu_14V 30 (by decide)).trans (xu_12V 30 (by decide)))) ?_
              have q_74 : 0 ≤ (v 30).toInt ∧ (v 30).toInt ≤ 1 := by have h9 : v16 30 = (v 30) := ((hV_16 30 (by decide)).trans ((xu_14V 30 (by decide)).trans (xu_12V 30 (by decide)))); rw [← h9]; exact hv 30
              refine lv_dup2_11 hx hb dX12_readTune_182 rfl rfl ?_
              have q_75 : vp_in (v 30) 2 := vp_in_iff.mpr ⟨by omega, by omega⟩
              refine ml_11 hx hb hK hP q_75 dX12_readTune_183 ?_
              refine lv_topi (fun v_76 ev_76 => ?_)
              have q_77 : 0 ≤ v_76.toInt ∧ v_76.toInt ≤ 14 := by rw [ev_76]; exact MIf.rd 11 hf q_75
              have q_78 : v_76.toInt = ((f 11) (Int32.toNatClampNeg (v 30))).toInt := (congrArg Int32.toInt ev_76).trans (congrArg (fun z : Nat → Int32 => (z (Int32.toNatClampNeg (v 30))).toInt) (show f16 11 = (f 11) from (hF_16 11 (by decide))))
              refine lv_iconst (v := 1) hx hb dX12_readTune_184 (by decide) ?_
              refine lv_iadd hx hb dX12_readTune_185 ?_
              refine lv_topi (fun v_79 ev_79 => ?_)
              have q_80 : v_79.toInt = v_76.toInt + (1 : Int32).toInt := ow_add ev_79 (by omega) (by omega)
              have q_81 : vp_in (v 30) 2 := vp_in_iff.mpr ⟨by omega, by omega⟩
              refine ms_11 hx hb hK hP hD hS q_81 dX12_readTune_186 (fun H locs hP hD hS => ?_)
              replace hf := MIf.up 11 (i := (Int32.toNatClampNeg (v 30))) hf (show 0 ≤ v_79.toInt ∧ v_79.toInt ≤ 14 from by omega)
              replace hF_0 := FF.up hF_0 11 (upd (f16 11) (Int32.toNatClampNeg (v 30)) v_79) (by decide)
              replace hL : WL v16 (va_up f16 11 (upd (f16 11) (Int32.toNatClampNeg (v 30)) v_79)) := WL.upf 11 hL (by decide)
              replace hR : RI v16 (va_up f16 11 (upd (f16 11) (Int32.toNatClampNeg (v 30)) v_79)) := RI.up 11 hR (by decide)
              refine W.widen (k := 0) (n := 0) (Nat.le_of_ble_eq_true rfl) (Nat.le_of_ble_eq_true rfl) ?_
              exact W.vret hx hb hr (fun t ht9 hW => ⟨⟨(v16, nm16, (va_up f16 11 (upd (f16 11) (Int32.toNatClampNeg (v 30)) v_79)), (va_up g16 22 (vp_updL (g16 22) (Int32.toNatClampNeg v_8) r_u_12))), rfl, ⟨hv, hf, hR, hL, hV_0, hF_0, (show (v16 7).toInt ≤ (v 3).toInt ∧ ((v16 4).toInt ≠ 0 ∨ (v 4).toInt = 0) from by first | omega | (subst_vars; first | rfl | omega)), (show 0 ≤ mz (v 3).toInt (v16 7).toInt (v16 8).toInt ∧ mz (v 3).toInt (v16 7).toInt (v16 8).toInt ≤ mz (v 3).toInt (v 7).toInt (v 8).toInt from by omega)⟩, ⟨by rw [ht9]; exact hP, hD⟩⟩, hS.F ht9⟩) hS.2.2 dX12_readTune_187
            · have q_82 : (v16 8).toInt = (4 : Int32).toInt := (ow_eq _ _).mp c_71
              refine lv_aload_n hx hb dX12_readTune_77 rfl (lv_at hl 2 rfl) ?_
              refine mg_15 hx hb ht hown hK hP dX12_readTune_78 ?_
              refine lv_iload_n hx hb dX12_readTune_81 rfl (lv_at hl 1 rfl) ?_
              refine ml_15 hx hb hK hP q_30 dX12_readTune_82 ?_
              refine ow_top v_31 ev_31.symm ?_
              refine lv_bipush (v := 12) hx hb dX12_readTune_83 (by decide) ?_
              refine lv_icmp_ne (tgt := 92) hx hb dX12_readTune_85 (by decide) (fun c_83 => ?_) (fun c_83 => ?_)
              · have q_84 : ¬ v_31.toInt = (12 : Int32).toInt := by have := (not_congr (ow_eq _ _)).mp c_83; omega
                refine lv_aload_n hx hb dX12_readTune_92 rfl (lv_at hl 2 rfl) ?_
                refine lv_iconst (v := 0) hx hb dX12_readTune_93 (by decide) ?_
                refine lv_bipush (v := 60) hx hb dX12_readTune_94 (by decide) ?_
                have hFc := fr_free hD hS hA
                refine va_calli (va_runV (As := [.int 0, .int 60]) (rest := []) ⟨hx, hb, hml, hown, ht⟩ (m_numeral l G cy _ mo h T v16 nm16 f16 g16 (0) (60)  hv hf hR hL (show (0 : Int32).toInt ≤ (60 : Int32).toInt from by omega) (show (v16 7).toInt ≤ (v16 3).toInt from by rw [(show v16 3 = (v 3) from ((hV_16 3 (by decide)).trans ((xu_14V 3 (by decide)).trans (xu_12V 3 (by decide)))))]; omega)) (cwV 2 ht (gv k_288 k_289 k_290 k_61 k_287) rfl rfl rfl (by decide +kernel) ⟨Nat.le_of_ble_eq_true rfl, Nat.le_of_ble_eq_true rfl⟩) ⟨En.blind, va_recv hK hP (ci := 12) (q0 := 0) rfl rfl, fun U hU hW => ⟨rfl, En.of hU hW hP hK hD hN⟩⟩ rfl rfl hl.1 rfl (lv_room (Nat.le_of_ble_eq_true rfl)) dX12_readTune_96 ⟨Nat.le_of_ble_eq_true rfl, Nat.le_of_ble_eq_true rfl⟩) hS (fun q _ h => hFc q h) hFc (fun r_u_85 u_85 t9 H locs ht9 hvm hw hB hz1 hk1 hS => ?_)
                obtain ⟨v85, nm85⟩ := u_85
                obtain ⟨hP1, hD1⟩ := hB
                rw [ht9] at hP1
                obtain ⟨hv, xu_85V, wu_85, xu_85_M⟩ := hw
                dsimp only at hv xu_85V wu_85 xu_85_M
                have hP : va_P G vwCl (WMs cy mo h v85 nm85 f16 g16) H := hP1
                have hD : va_D A (WMs cy mo h v85 nm85 f16 g16) := hD1.weaken (fun _ _ _ h => hFc _ h)
                replace hR : RI v85 f16 := RI.fv hR xu_85V (by decide)
                replace hL : WL v85 f16 := WL.fv hL xu_85V (by decide) (by decide)
                replace hV_0 := FV.tr hV_0 xu_85V (by decide)
                replace hW_16 := FV.tr hW_16 xu_85V (by decide)
                clear hFc hk1 hz1 hP1 hD1
                replace wu_85 : ((0 : Int32).toInt ≤ r_u_85.toInt ∧ r_u_85.toInt ≤ (60 : Int32).toInt ∧ (v85 7).toInt ≤ (v 3).toInt ∧ ((v85 4).toInt ≠ 0 ∨ ((v16 4).toInt = 0 ∧ (v16 8).toInt = 4))) := by
                  have h9 : ((0 : Int32).toInt ≤ r_u_85.toInt ∧ r_u_85.toInt ≤ (60 : Int32).toInt ∧ (v85 7).toInt ≤ (v16 3).toInt ∧ ((v85 4).toInt ≠ 0 ∨ ((v16 4).toInt = 0 ∧ (v16 8).toInt = 4))) := wu_85
                  rw [(show v16 3 = (v 3) from ((hV_16 3 (by decide)).trans ((xu_14V 3 (by decide)).trans (xu_12V 3 (by decide)))))] at h9
                  exact h9
                replace xu_85_M : 0 ≤ mz (v 3).toInt (v85 7).toInt (v85 8).toInt ∧ mz (v 3).toInt (v85 7).toInt (v85 8).toInt ≤ mz (v 3).toInt (v16 7).toInt (v16 8).toInt ∧ ((v85 4).toInt ≠ 0 ∨ mz (v 3).toInt (v85 7).toInt (v85 8).toInt < mz (v 3).toInt (v16 7).toInt (v16 8).toInt) := by
                  have h9 : 0 ≤ mz (v16 3).toInt (v85 7).toInt (v85 8).toInt ∧ mz (v16 3).toInt (v85 7).toInt (v85 8).toInt ≤ mz (v16 3).toInt (v16 7).toInt (v16 8).toInt ∧ ((v85 4).toInt ≠ 0 ∨ mz (v16 3).toInt (v85 7).toInt (v85 8).toInt < mz (v16 3).toInt (v16 7).toInt (v16 8).toInt) := xu_85_M
                  rw [(show v16 3 = (v 3) from ((hV_16 3 (by decide)).trans ((xu_14V 3 (by decide)).trans (xu_12V 3 (by decide)))))] at h9
                  exact h9
                refine lv_istore (lv' := [(4, .int r_u_85), (2, .long r_u_12), (1, .int v_8), (0, .ref mo)]) hx hb dX12_readTune_99 hl (by decide) rfl (fun ls hl => ?_)
                refine lv_aload_n hx hb dX12_readTune_101 rfl (lv_at hl 3 rfl) ?_
                refine lv_iconst (v := 1) hx hb dX12_readTune_102 (by decide) ?_
                refine lv_bipush (v := 9) hx hb dX12_readTune_103 (by decide) ?_
                have hFc := fr_free hD hS hA
                refine va_calli (va_runV (As := [.int 1, .int 9]) (rest := []) ⟨hx, hb, hml, hown, ht⟩ (m_numeral l G cy _ mo h T v85 nm85 f16 g16 (1) (9)  hv hf hR hL (show (1 : Int32).toInt ≤ (9 : Int32).toInt from by omega) (show (v85 7).toInt ≤ (v85 3).toInt from by rw [(show v85 3 = (v 3) from ((xu_85V 3 (by decide)).trans ((hV_16 3 (by decide)).trans ((xu_14V 3 (by decide)).trans (xu_12V 3 (by decide))))))]; omega)) (cwV 2 ht (gv k_288 k_289 k_290 k_61 k_287) rfl rfl rfl (by decide +kernel) ⟨Nat.le_of_ble_eq_true rfl, Nat.le_of_ble_eq_true rfl⟩) ⟨En.blind, va_recv hK hP (ci := 12) (q0 := 0) rfl rfl, fun U hU hW => ⟨rfl, En.of hU hW hP hK hD hN⟩⟩ rfl rfl hl.1 rfl (lv_room (Nat.le_of_ble_eq_true rfl)) dX12_readTune_105 ⟨Nat.le_of_ble_eq_true rfl, Nat.le_of_ble_eq_true rfl⟩) hS (fun q _ h => hFc q h) hFc (fun r_u_86 u_86 t9 H locs ht9 hvm hw hB hz1 hk1 hS => ?_)
                obtain ⟨v86, nm86⟩ := u_86
                obtain ⟨hP1, hD1⟩ := hB
                rw [ht9] at hP1
                obtain ⟨hv, xu_86V, wu_86, xu_86_M⟩ := hw
                dsimp only at hv xu_86V wu_86 xu_86_M
                have hP : va_P G vwCl (WMs cy mo h v86 nm86 f16 g16) H := hP1
                have hD : va_D A (WMs cy mo h v86 nm86 f16 g16) := hD1.weaken (fun _ _ _ h => hFc _ h)
                replace hR : RI v86 f16 := RI.fv hR xu_86V (by decide)
                replace hL : WL v86 f16 := WL.fv hL xu_86V (by decide) (by decide)
                replace hV_0 := FV.tr hV_0 xu_86V (by decide)
                replace hW_16 := FV.tr hW_16 xu_86V (by decide)
                clear hFc hk1 hz1 hP1 hD1
                replace wu_86 : ((1 : Int32).toInt ≤ r_u_86.toInt ∧ r_u_86.toInt ≤ (9 : Int32).toInt ∧ (v86 7).toInt ≤ (v 3).toInt ∧ ((v86 4).toInt ≠ 0 ∨ ((v85 4).toInt = 0 ∧ (v85 8).toInt = 4))) := by
                  have h9 : ((1 : Int32).toInt ≤ r_u_86.toInt ∧ r_u_86.toInt ≤ (9 : Int32).toInt ∧ (v86 7).toInt ≤ (v85 3).toInt ∧ ((v86 4).toInt ≠ 0 ∨ ((v85 4).toInt = 0 ∧ (v85 8).toInt = 4))) := wu_86
                  rw [(show v85 3 = (v 3) from ((xu_85V 3 (by decide)).trans ((hV_16 3 (by decide)).trans ((xu_14V 3 (by decide)).trans (xu_12V 3 (by decide))))))] at h9
                  exact h9
                replace xu_86_M : 0 ≤ mz (v 3).toInt (v86 7).toInt (v86 8).toInt ∧ mz (v 3).toInt (v86 7).toInt (v86 8).toInt ≤ mz (v 3).toInt (v85 7).toInt (v85 8).toInt ∧ ((v86 4).toInt ≠ 0 ∨ mz (v 3).toInt (v86 7).toInt (v86 8).toInt < mz (v 3).toInt (v85 7).toInt (v85 8).toInt) := by
                  have h9 : 0 ≤ mz (v85 3).toInt (v86 7).toInt (v86 8).toInt ∧ mz (v85 3).toInt (v86 7).toInt (v86 8).toInt ≤ mz (v85 3).toInt (v85 7).toInt (v85 8).toInt ∧ ((v86 4).toInt ≠ 0 ∨ mz (v85 3).toInt (v86 7).toInt (v86 8).toInt < mz (v85 3).toInt (v85 7).toInt (v85 8).toInt) := xu_86_M
                  rw [(show v85 3 = (v 3) from ((xu_85V 3 (by decide)).trans ((hV_16 3 (by decide)).trans ((xu_14V 3 (by decide)).trans (xu_12V 3 (by decide))))))] at h9
                  exact h9
                refine lv_istore (lv' := [(5, .int r_u_86), (4, .int r_u_85), (2, .long r_u_12), (1, .int v_8), (0, .ref mo)]) hx hb dX12_readTune_108 hl (by decide) rfl (fun ls hl => ?_)
                refine lv_aload_n hx hb dX12_readTune_110 rfl (lv_at hl 4 rfl) ?_
                have hFc := fr_new hS hA
                refine va_calli (va_runV (As := []) (rest := []) ⟨hx, hb, hml, hown, ht⟩ (m_isGood l G cy _ mo h T v86 nm86 f16 g16   hv hf hR hL) (cwV 0 ht (gv k_224 k_225 k_226 k_61 k_223) rfl rfl rfl (by decide +kernel) ⟨Nat.le_of_ble_eq_true rfl, Nat.le_of_ble_eq_true rfl⟩) ⟨En.blind, va_recv hK hP (ci := 12) (q0 := 0) rfl rfl, fun U hU hW => ⟨rfl, En.of hU hW hP hK hD hN⟩⟩ rfl rfl hl.1 rfl (lv_room (Nat.le_of_ble_eq_true rfl)) dX12_readTune_111 ⟨Nat.le_of_ble_eq_true rfl, Nat.le_of_ble_eq_true rfl⟩) hS (fun q _ h => hFc q h) hFc (fun r_u_87 u_87 t9 H locs ht9 hvm hw hB hz1 hk1 hS => ?_)
                have hP := fr_keep hP hk1
                have wu_87 := hw
                clear hFc hk1 hz1 hB hw
                replace wu_87 : (r_u_87.toInt = 0 ∨ r_u_87.toInt = 1) ∧ ((r_u_87.toInt = 1 ∧ (v86 4).toInt = 0) ∨ (r_u_87.toInt = 0 ∧ (v86 4).toInt ≠ 0)) := wu_87
                refine lv_if_ne (tgt := 118) hx hb dX12_readTune_114 (by decide) (fun c_88 => ?_) (fun c_88 => ?_)
                · have q_89 : ¬ r_u_87.toInt = (0 : Int32).toInt := by have := (not_congr (ow_eq _ _)).mp c_88; omega
                  refine lv_aload_n hx hb dX12_readTune_118 rfl (lv_at hl 4 rfl) ?_
                  refine mg_16 hx hb ht hown hK hP dX12_readTune_119 ?_
                  refine lv_bipush (v := 40) hx hb dX12_readTune_122 (by decide) ?_
                  refine lv_iload_n hx hb dX12_readTune_124 rfl (lv_at hl 3 rfl) ?_
                  refine lv_imul hx hb dX12_readTune_125 ?_
                  refine lv_topi (fun v_90 ev_90 => ?_)
                  have q_91 : v_90.toInt = 40 * v_8.toInt := ow_mul ev_90 (by decide) (by omega) (by omega)
                  refine lv_aload_n hx hb dX12_readTune_126 rfl (lv_at hl 4 rfl) ?_
                  refine mg_15 hx hb ht hown hK hP dX12_readTune_127 ?_
                  refine lv_iload_n hx hb dX12_readTune_130 rfl (lv_at hl 3 rfl) ?_
                  have q_92 : vp_in v_8 30 := vp_in_iff.mpr ⟨by omega, by omega⟩
                  refine ml_15 hx hb hK hP q_92 dX12_readTune_131 ?_
                  refine lv_topi (fun v_93 ev_93 => ?_)
                  have q_94 : 0 ≤ v_93.toInt ∧ v_93.toInt ≤ 12 := by rw [ev_93]; exact MIf.rd 15 hf q_92
                  have q_95 : v_93.toInt = ((f16 15) (Int32.toNatClampNeg v_8)).toInt := (congrArg Int32.toInt ev_93).trans (congrArg (fun z : Nat → Int32 => (z (Int32.toNatClampNeg v_8)).toInt) (show f16 15 = (f16 15) from rfl))
                  refine lv_iadd hx hb dX12_readTune_132 ?_
                  refine lv_topi (fun v_96 ev_96 => ?_)
                  have q_97 : v_96.toInt = v_90.toInt + v_93.toInt := ow_add ev_96 (by omega) (by omega)
                  refine lv_iload hx hb dX12_readTune_133 (lv_at hl 1 rfl) ?_
                  have q_98 : vp_in v_96 1200 := vp_in_iff.mpr ⟨by omega, by omega⟩
                  refine ms_16 hx hb hK hP hD hS q_98 dX12_readTune_135 (fun H locs hP hD hS => ?_)
                  replace hf := MIf.up 16 (i := (Int32.toNatClampNeg v_96)) hf (ow_any r_u_85)
                  replace hF_0 := FF.up hF_0 16 (upd (f16 16) (Int32.toNatClampNeg v_96) r_u_85) (by decide)
                  replace hY_16 := FF.up hY_16 16 (upd (f16 16) (Int32.toNatClampNeg v_96) r_u_85) (by decide)
                  replace hL : WL v86 (va_up f16 16 (upd (f16 16) (Int32.toNatClampNeg v_96) r_u_85)) := WL.upf 16 hL (by decide)
                  replace hR : RI v86 (va_up f16 16 (upd (f16 16) (Int32.toNatClampNeg v_96) r_u_85)) := RI.up 16 hR (by decide)
                  refine lv_aload_n hx hb dX12_readTune_136 rfl (lv_at hl 4 rfl) ?_
                  refine mg_17 hx hb ht hown hK hP dX12_readTune_137 ?_
                  refine lv_bipush (v := 40) hx hb dX12_readTune_140 (by decide) ?_
                  refine lv_iload_n hx hb dX12_readTune_142 rfl (lv_at hl 3 rfl) ?_
                  refine lv_imul hx hb dX12_readTune_143 ?_
                  refine lv_topi (fun v_99 ev_99 => ?_)
                  have q_100 : v_99.toInt = 40 * v_8.toInt := ow_mul ev_99 (by decide) (by omega) (by omega)
                  refine lv_aload_n hx hb dX12_readTune_144 rfl (lv_at hl 4 rfl) ?_
                  refine mg_15 hx hb ht hown hK hP dX12_readTune_145 ?_
                  refine lv_iload_n hx hb dX12_readTune_148 rfl (lv_at hl 3 rfl) ?_
                  have q_101 : vp_in v_8 30 := vp_in_iff.mpr ⟨by omega, by omega⟩
                  refine ml_15 hx hb hK hP q_101 dX12_readTune_149 ?_
                  refine lv_topi (fun v_102 ev_102 => ?_)
                  have q_103 : 0 ≤ v_102.toInt ∧ v_102.toInt ≤ 12 := by rw [ev_102]; exact MIf.rd 15 hf q_101
                  have q_104 : v_102.toInt = ((f16 15) (Int32.toNatClampNeg v_8)).toInt := (congrArg Int32.toInt ev_102).trans (congrArg (fun z : Nat → Int32 => (z (Int32.toNatClampNeg v_8)).toInt) (show (va_up f16 16 (upd (f16 16) (Int32.toNatClampNeg v_96) r_u_85)) 15 = (f16 15) from rfl))
                  refine lv_iadd hx hb dX12_readTune_150 ?_
                  refine lv_topi (fun v_105 ev_105 => ?_)
                  have q_106 : v_105.toInt = v_99.toInt + v_102.toInt := ow_add ev_105 (by omega) (by omega)
                  refine lv_iload hx hb dX12_readTune_151 (lv_at hl 0 rfl) ?_
                  have q_107 : vp_in v_105 1200 := vp_in_iff.mpr ⟨by omega, by omega⟩
                  refine ms_17 hx hb hK hP hD hS q_107 dX12_readTune_153 (fun H locs hP hD hS => ?_)
                  replace hf := MIf.up 17 (i := (Int32.toNatClampNeg v_105)) hf (show 0 ≤ r_u_86.toInt ∧ r_u_86.toInt ≤ 9 from by omega)
                  replace hF_0 := FF.up hF_0 17 (upd ((va_up f16 16 (upd (f16 16) (Int32.toNatClampNeg v_96) r_u_85)) 17) (Int32.toNatClampNeg v_105) r_u_86) (by decide)
                  replace hY_16 := FF.up hY_16 17 (upd ((va_up f16 16 (upd (f16 16) (Int32.toNatClampNeg v_96) r_u_85)) 17) (Int32.toNatClampNeg v_105) r_u_86) (by decide)
                  replace hL : WL v86 (va_up (va_up f16 16 (upd (f16 16) (Int32.toNatClampNeg v_96) r_u_85)) 17 (upd ((va_up f16 16 (upd (f16 16) (Int32.toNatClampNeg v_96) r_u_85)) 17) (Int32.toNatClampNeg v_105) r_u_86)) := WL.upf 17 hL (by decide)
                  replace hR : RI v86 (va_up (va_up f16 16 (upd (f16 16) (Int32.toNatClampNeg v_96) r_u_85)) 17 (upd ((va_up f16 16 (upd (f16 16) (Int32.toNatClampNeg v_96) r_u_85)) 17) (Int32.toNatClampNeg v_105) r_u_86)) := RI.up 17 hR (by decide)
                  refine lv_aload_n hx hb dX12_readTune_154 rfl (lv_at hl 4 rfl) ?_
                  refine mg_15 hx hb ht hown hK hP dX12_readTune_155 ?_
                  refine lv_iload_n hx hb dX12_readTune_158 rfl (lv_at hl 3 rfl) ?_
                  refine lv_dup2_11 hx hb dX12_readTune_159 rfl rfl ?_
                  have q_108 : vp_in v_8 30 := vp_in_iff.mpr ⟨by omega, by omega⟩
                  refine ml_15 hx hb hK hP q_108 dX12_readTune_160 ?_
                  refine lv_topi (fun v_109 ev_109 => ?_)
                  have q_110 : 0 ≤ v_109.toInt ∧ v_109.toInt ≤ 12 := by rw [ev_109]; exact MIf.rd 15 hf q_108
                  have q_111 : v_109.toInt = ((f16 15) (Int32.toNatClampNeg v_8)).toInt := (congrArg Int32.toInt ev_109).trans (congrArg (fun z : Nat → Int32 => (z (Int32.toNatClampNeg v_8)).toInt) (show (va_up (va_up f16 16 (upd (f16 16) (Int32.toNatClampNeg v_96) r_u_85)) 17 (upd ((va_up f16 16 (upd (f16 16) (Int32.toNatClampNeg v_96) r_u_85)) 17) (Int32.toNatClampNeg v_105) r_u_86)) 15 = (f16 15) from rfl))
                  refine lv_iconst (v := 1) hx hb dX12_readTune_161 (by decide) ?_
                  refine lv_iadd hx hb dX12_readTune_162 ?_
                  refine lv_topi (fun v_112 ev_112 => ?_)
                  have q_113 : v_112.toInt = v_109.toInt + (1 : Int32).toInt := ow_add ev_112 (by omega) (by omega)
                  have q_114 : vp_in v_8 30 := vp_in_iff.mpr ⟨by omega, by omega⟩
                  refine ms_15 hx hb hK hP hD hS q_114 dX12_readTune_163 (fun H locs hP hD hS => ?_)
                  replace hf := MIf.up 15 (i := (Int32.toNatClampNeg v_8)) hf (show 0 ≤ v_112.toInt ∧ v_112.toInt ≤ 12 from by omega)
                  replace hF_0 := FF.up hF_0 15 (upd ((va_up (va_up f16 16 (upd (f16 16) (Int32.toNatClampNeg v_96) r_u_85)) 17 (upd ((va_up f16 16 (upd (f16 16) (Int32.toNatClampNeg v_96) r_u_85)) 17) (Int32.toNatClampNeg v_105) r_u_86)) 15) (Int32.toNatClampNeg v_8) v_112) (by decide)
                  replace hY_16 := FF.up hY_16 15 (upd ((va_up (va_up f16 16 (upd (f16 16) (Int32.toNatClampNeg v_96) r_u_85)) 17 (upd ((va_up f16 16 (upd (f16 16) (Int32.toNatClampNeg v_96) r_u_85)) 17) (Int32.toNatClampNeg v_105) r_u_86)) 15) (Int32.toNatClampNeg v_8) v_112) (by decide)
                  replace hL : WL v86 (va_up (va_up (va_up f16 16 (upd (f16 16) (Int32.toNatClampNeg v_96) r_u_85)) 17 (upd ((va_up f16 16 (upd (f16 16) (Int32.toNatClampNeg v_96) r_u_85)) 17) (Int32.toNatClampNeg v_105) r_u_86)) 15 (upd ((va_up (va_up f16 16 (upd (f16 16) (Int32.toNatClampNeg v_96) r_u_85)) 17 (upd ((va_up f16 16 (upd (f16 16) (Int32.toNatClampNeg v_96) r_u_85)) 17) (Int32.toNatClampNeg v_105) r_u_86)) 15) (Int32.toNatClampNeg v_8) v_112)) := WL.upf 15 hL (by decide)
                  replace hR : RI v86 (va_up (va_up (va_up f16 16 (upd (f16 16) (Int32.toNatClampNeg v_96) r_u_85)) 17 (upd ((va_up f16 16 (upd (f16 16) (Int32.toNatClampNeg v_96) r_u_85)) 17) (Int32.toNatClampNeg v_105) r_u_86)) 15 (upd ((va_up (va_up f16 16 (upd (f16 16) (Int32.toNatClampNeg v_96) r_u_85)) 17 (upd ((va_up f16 16 (upd (f16 16) (Int32.toNatClampNeg v_96) r_u_85)) 17) (Int32.toNatClampNeg v_105) r_u_86)) 15) (Int32.toNatClampNeg v_8) v_112)) := RI.up 15 hR (by decide)
                  refine lv_goto (tgt := 53) hx hb dX12_readTune_164 (by decide) ?_
                  refine W.widen (k := 0) (n := 0) (Nat.le_of_ble_eq_true rfl) (Nat.le_of_ble_eq_true rfl) ?_
                  exact ih_16 v86 nm86 (va_up (va_up (va_up f16 16 (upd (f16 16) (Int32.toNatClampNeg v_96) r_u_85)) 17 (upd ((va_up f16 16 (upd (f16 16) (Int32.toNatClampNeg v_96) r_u_85)) 17) (Int32.toNatClampNeg v_105) r_u_86)) 15 (upd ((va_up (va_up f16 16 (upd (f16 16) (Int32.toNatClampNeg v_96) r_u_85)) 17 (upd ((va_up f16 16 (upd (f16 16) (Int32.toNatClampNeg v_96) r_u_85)) 17) (Int32.toNatClampNeg v_105) r_u_86)) 15) (Int32.toNatClampNeg v_8) v_112)) g16 _ _ _ hv hf hR hL hW_16 hY_16 (show (v86 7).toInt ≤ (v 3).toInt ∧ ((v86 4).toInt ≠ 0 ∨ (v 4).toInt = 0) ∧ 0 ≤ mz (v 3).toInt (v86 7).toInt (v86 8).toInt ∧ mz (v 3).toInt (v86 7).toInt (v86 8).toInt ≤ mz (v 3).toInt (v 7).toInt (v 8).toInt from by omega) (show (mz (v 3).toInt (v86 7).toInt (v86 8).toInt).toNat < N_16 from by omega) hP hD hS (lv_sub hl [2, 3, 4] rfl)
                · have q_115 : r_u_87.toInt = (0 : Int32).toInt := (ow_eq _ _).mp c_88
                  refine W.widen (k := 0) (n := 0) (Nat.le_of_ble_eq_true rfl) (Nat.le_of_ble_eq_true rfl) ?_
                  exact W.vret hx hb hr (fun t ht9 hW => ⟨⟨(v86, nm86, f16, g16), rfl, ⟨hv, hf, hR, hL, hV_0, hF_0, (show (v86 7).toInt ≤ (v 3).toInt ∧ ((v86 4).toInt ≠ 0 ∨ (v 4).toInt = 0) from by first | omega | (subst_vars; first | rfl | omega)), (show 0 ≤ mz (v 3).toInt (v86 7).toInt (v86 8).toInt ∧ mz (v 3).toInt (v86 7).toInt (v86 8).toInt ≤ mz (v 3).toInt (v 7).toInt (v 8).toInt from by omega)⟩, ⟨by rw [ht9]; exact hP, hD⟩⟩, hS.F ht9⟩) hS.2.2 dX12_readTune_117
              · have q_116 : v_31.toInt = (12 : Int32).toInt := (ow_eq _ _).mp c_83
                refine lv_aload_n hx hb dX12_readTune_88 rfl (lv_at hl 2 rfl) ?_
                have hFc := fr_free hD hS hA
                refine va_callv (va_runV (As := []) (rest := []) ⟨hx, hb, hml, hown, ht⟩ (m_misplaced l G cy _ mo h T v16 nm16 f16 g16   hv hf hR hL) (cwV 0 ht (gv k_228 k_229 k_230 k_61 k_227) rfl rfl rfl (by decide +kernel) ⟨Nat.le_of_ble_eq_true rfl, Nat.le_of_ble_eq_true rfl⟩) ⟨En.blind, va_recv hK hP (ci := 12) (q0 := 0) rfl rfl, fun U hU hW => ⟨rfl, En.of hU hW hP hK hD hN⟩⟩ rfl rfl hl.1 rfl (lv_room (Nat.le_of_ble_eq_true rfl)) dX12_readTune_89 ⟨Nat.le_of_ble_eq_true rfl, Nat.le_of_ble_eq_true rfl⟩) hS (fun q _ h => hFc q h) hFc (fun u_117 t9 H locs ht9 hvm hw hB hz1 hk1 hS => ?_)
                obtain ⟨v117, nm117⟩ := u_117
                obtain ⟨hP1, hD1⟩ := hB
                rw [ht9] at hP1
                obtain ⟨hv, xu_117V, wu_117⟩ := hw
                dsimp only at hv xu_117V wu_117
                have hP : va_P G vwCl (WMs cy mo h v117 nm117 f16 g16) H := hP1
                have hD : va_D A (WMs cy mo h v117 nm117 f16 g16) := hD1.weaken (fun _ _ _ h => hFc _ h)
                replace hR : RI v117 f16 := RI.fv hR xu_117V (by decide)
                replace hL : WL v117 f16 := WL.fv hL xu_117V (by decide) (by decide)
                replace hV_0 := FV.tr hV_0 xu_117V (by decide)
                replace hW_16 := FV.tr hW_16 xu_117V (by decide)
                clear hFc hk1 hz1 hP1 hD1
                replace wu_117 : (1 ≤ (v117 4).toInt) := wu_117
                refine lv_aload_n hx hb dX12_readTune_92 rfl (lv_at hl 2 rfl) ?_
                refine lv_iconst (v := 0) hx hb dX12_readTune_93 (by decide) ?_
                refine lv_bipush (v := 60) hx hb dX12_readTune_94 (by decide) ?_
                have hFc := fr_free hD hS hA
                refine va_calli (va_runV (As := [.int 0, .int 60]) (rest := []) ⟨hx, hb, hml, hown, ht⟩ (m_numeral l G cy _ mo h T v117 nm117 f16 g16 (0) (60)  hv hf hR hL (show (0 : Int32).toInt ≤ (60 : Int32).toInt from by omega) (show (v117 7).toInt ≤ (v117 3).toInt from by rw [(show v117 7 = (v16 7) from (xu_117V 7 (by decide))), (show v117 3 = (v 3) from ((xu_117V 3 (by decide)).trans ((hV_16 3 (by decide)).trans ((xu_14V 3 (by decide)).trans (xu_12V 3 (by decide))))))]; omega)) (cwV 2 ht (gv k_288 k_289 k_290 k_61 k_287) rfl rfl rfl (by decide +kernel) ⟨Nat.le_of_ble_eq_true rfl, Nat.le_of_ble_eq_true rfl⟩) ⟨En.blind, va_recv hK hP (ci := 12) (q0 := 0) rfl rfl, fun U hU hW => ⟨rfl, En.of hU hW hP hK hD hN⟩⟩ rfl rfl hl.1 rfl (lv_room (Nat.le_of_ble_eq_true rfl)) dX12_readTune_96 ⟨Nat.le_of_ble_eq_true rfl, Nat.le_of_ble_eq_true rfl⟩) hS (fun q _ h => hFc q h) hFc (fun r_u_118 u_118 t9 H locs ht9 hvm hw hB hz1 hk1 hS => ?_)
                obtain ⟨v118, nm118⟩ := u_118
                obtain ⟨hP1, hD1⟩ := hB
                rw [ht9] at hP1
                obtain ⟨hv, xu_118V, wu_118, xu_118_M⟩ := hw
                dsimp only at hv xu_118V wu_118 xu_118_M
                have hP : va_P G vwCl (WMs cy mo h v118 nm118 f16 g16) H := hP1
                have hD : va_D A (WMs cy mo h v118 nm118 f16 g16) := hD1.weaken (fun _ _ _ h => hFc _ h)
                replace hR : RI v118 f16 := RI.fv hR xu_118V (by decide)
                replace hL : WL v118 f16 := WL.fv hL xu_118V (by decide) (by decide)
                replace hV_0 := FV.tr hV_0 xu_118V (by decide)
                replace hW_16 := FV.tr hW_16 xu_118V (by decide)
                clear hFc hk1 hz1 hP1 hD1
                replace wu_118 : ((0 : Int32).toInt ≤ r_u_118.toInt ∧ r_u_118.toInt ≤ (60 : Int32).toInt ∧ (v118 7).toInt ≤ (v 3).toInt ∧ ((v118 4).toInt ≠ 0 ∨ ((v117 4).toInt = 0 ∧ (v16 8).toInt = 4))) := by
                  have h9 : ((0 : Int32).toInt ≤ r_u_118.toInt ∧ r_u_118.toInt ≤ (60 : Int32).toInt ∧ (v118 7).toInt ≤ (v117 3).toInt ∧ ((v118 4).toInt ≠ 0 ∨ ((v117 4).toInt = 0 ∧ (v117 8).toInt = 4))) := wu_118
                  rw [(show v117 3 = (v 3) from ((xu_117V 3 (by decide)).trans ((hV_16 3 (by decide)).trans ((xu_14V 3 (by decide)).trans (xu_12V 3 (by decide)))))), (show v117 8 = (v16 8) from (xu_117V 8 (by decide)))] at h9
                  exact h9
                replace xu_118_M : 0 ≤ mz (v 3).toInt (v118 7).toInt (v118 8).toInt ∧ mz (v 3).toInt (v118 7).toInt (v118 8).toInt ≤ mz (v 3).toInt (v16 7).toInt (v16 8).toInt ∧ ((v118 4).toInt ≠ 0 ∨ mz (v 3).toInt (v118 7).toInt (v118 8).toInt < mz (v 3).toInt (v16 7).toInt (v16 8).toInt) := by
                  have h9 : 0 ≤ mz (v117 3).toInt (v118 7).toInt (v118 8).toInt ∧ mz (v117 3).toInt (v118 7).toInt (v118 8).toInt ≤ mz (v117 3).toInt (v117 7).toInt (v117 8).toInt ∧ ((v118 4).toInt ≠ 0 ∨ mz (v117 3).toInt (v118 7).toInt (v118 8).toInt < mz (v117 3).toInt (v117 7).toInt (v117 8).toInt) := xu_118_M
                  rw [(show v117 3 = (v 3) from ((xu_117V 3 (by decide)).trans ((hV_16 3 (by decide)).trans ((xu_14V 3 (by decide)).trans (xu_12V 3 (by decide)))))), (show v117 7 = (v16 7) from (xu_117V 7 (by decide))), (show v117 8 = (v16 8) from (xu_117V 8 (by decide)))] at h9
                  exact h9
                refine lv_istore (lv' := [(4, .int r_u_118), (2, .long r_u_12), (1, .int v_8), (0, .ref mo)]) hx hb dX12_readTune_99 hl (by decide) rfl (fun ls hl => ?_)
                refine lv_aload_n hx hb dX12_readTune_101 rfl (lv_at hl 3 rfl) ?_
                refine lv_iconst (v := 1) hx hb dX12_readTune_102 (by decide) ?_
                refine lv_bipush (v := 9) hx hb dX12_readTune_103 (by decide) ?_
                have hFc := fr_free hD hS hA
                refine va_calli (va_runV (As := [.int 1, .int 9]) (rest := []) ⟨hx, hb, hml, hown, ht⟩ (m_numeral l G cy _ mo h T v118 nm118 f16 g16 (1) (9)  hv hf hR hL (show (1 : Int32).toInt ≤ (9 : Int32).toInt from by omega) (show (v118 7).toInt ≤ (v118 3).toInt from by rw [(show v118 3 = (v 3) from ((xu_118V 3 (by decide)).trans ((xu_117V 3 (by decide)).trans ((hV_16 3 (by decide)).trans ((xu_14V 3 (by decide)).trans (xu_12V 3 (by decide)))))))]; omega)) (cwV 2 ht (gv k_288 k_289 k_290 k_61 k_287) rfl rfl rfl (by decide +kernel) ⟨Nat.le_of_ble_eq_true rfl, Nat.le_of_ble_eq_true rfl⟩) ⟨En.blind, va_recv hK hP (ci := 12) (q0 := 0) rfl rfl, fun U hU hW => ⟨rfl, En.of hU hW hP hK hD hN⟩⟩ rfl rfl hl.1 rfl (lv_room (Nat.le_of_ble_eq_true rfl)) dX12_readTune_105 ⟨Nat.le_of_ble_eq_true rfl, Nat.le_of_ble_eq_true rfl⟩) hS (fun q _ h => hFc q h) hFc (fun r_u_119 u_119 t9 H locs ht9 hvm hw hB hz1 hk1 hS => ?_)
                obtain ⟨v119, nm119⟩ := u_119
                obtain ⟨hP1, hD1⟩ := hB
                rw [ht9] at hP1
                obtain ⟨hv, xu_119V, wu_119, xu_119_M⟩ := hw
                dsimp only at hv xu_119V wu_119 xu_119_M
                have hP : va_P G vwCl (WMs cy mo h v119 nm119 f16 g16) H := hP1
                have hD : va_D A (WMs cy mo h v119 nm119 f16 g16) := hD1.weaken (fun _ _ _ h => hFc _ h)
                replace hR : RI v119 f16 := RI.fv hR xu_119V (by decide)
                replace hL : WL v119 f16 := WL.fv hL xu_119V (by decide) (by decide)
                replace hV_0 := FV.tr hV_0 xu_119V (by decide)
                replace hW_16 := FV.tr hW_16 xu_119V (by decide)
                clear hFc hk1 hz1 hP1 hD1
                replace wu_119 : ((1 : Int32).toInt ≤ r_u_119.toInt ∧ r_u_119.toInt ≤ (9 : Int32).toInt ∧ (v119 7).toInt ≤ (v 3).toInt ∧ ((v119 4).toInt ≠ 0 ∨ ((v118 4).toInt = 0 ∧ (v118 8).toInt = 4))) := by
                  have h9 : ((1 : Int32).toInt ≤ r_u_119.toInt ∧ r_u_119.toInt ≤ (9 : Int32).toInt ∧ (v119 7).toInt ≤ (v118 3).toInt ∧ ((v119 4).toInt ≠ 0 ∨ ((v118 4).toInt = 0 ∧ (v118 8).toInt = 4))) := wu_119
                  rw [(show v118 3 = (v 3) from ((xu_118V 3 (by decide)).trans ((xu_117V 3 (by decide)).trans ((hV_16 3 (by decide)).trans ((xu_14V 3 (by decide)).trans (xu_12V 3 (by decide)))))))] at h9
                  exact h9
                replace xu_119_M : 0 ≤ mz (v 3).toInt (v119 7).toInt (v119 8).toInt ∧ mz (v 3).toInt (v119 7).toInt (v119 8).toInt ≤ mz (v 3).toInt (v118 7).toInt (v118 8).toInt ∧ ((v119 4).toInt ≠ 0 ∨ mz (v 3).toInt (v119 7).toInt (v119 8).toInt < mz (v 3).toInt (v118 7).toInt (v118 8).toInt) := by
                  have h9 : 0 ≤ mz (v118 3).toInt (v119 7).toInt (v119 8).toInt ∧ mz (v118 3).toInt (v119 7).toInt (v119 8).toInt ≤ mz (v118 3).toInt (v118 7).toInt (v118 8).toInt ∧ ((v119 4).toInt ≠ 0 ∨ mz (v118 3).toInt (v119 7).toInt (v119 8).toInt < mz (v118 3).toInt (v118 7).toInt (v118 8).toInt) := xu_119_M
                  rw [(show v118 3 = (v 3) from ((xu_118V 3 (by decide)).trans ((xu_117V 3 (by decide)).trans ((hV_16 3 (by decide)).trans ((xu_14V 3 (by decide)).trans (xu_12V 3 (by decide)))))))] at h9
                  exact h9
                refine lv_istore (lv' := [(5, .int r_u_119), (4, .int r_u_118), (2, .long r_u_12), (1, .int v_8), (0, .ref mo)]) hx hb dX12_readTune_108 hl (by decide) rfl (fun ls hl => ?_)
                refine lv_aload_n hx hb dX12_readTune_110 rfl (lv_at hl 4 rfl) ?_
                have hFc := fr_new hS hA
                refine va_calli (va_runV (As := []) (rest := []) ⟨hx, hb, hml, hown, ht⟩ (m_isGood l G cy _ mo h T v119 nm119 f16 g16   hv hf hR hL) (cwV 0 ht (gv k_224 k_225 k_226 k_61 k_223) rfl rfl rfl (by decide +kernel) ⟨Nat.le_of_ble_eq_true rfl, Nat.le_of_ble_eq_true rfl⟩) ⟨En.blind, va_recv hK hP (ci := 12) (q0 := 0) rfl rfl, fun U hU hW => ⟨rfl, En.of hU hW hP hK hD hN⟩⟩ rfl rfl hl.1 rfl (lv_room (Nat.le_of_ble_eq_true rfl)) dX12_readTune_111 ⟨Nat.le_of_ble_eq_true rfl, Nat.le_of_ble_eq_true rfl⟩) hS (fun q _ h => hFc q h) hFc (fun r_u_120 u_120 t9 H locs ht9 hvm hw hB hz1 hk1 hS => ?_)
                have hP := fr_keep hP hk1
                have wu_120 := hw
                clear hFc hk1 hz1 hB hw
                replace wu_120 : (r_u_120.toInt = 0 ∨ r_u_120.toInt = 1) ∧ ((r_u_120.toInt = 1 ∧ (v119 4).toInt = 0) ∨ (r_u_120.toInt = 0 ∧ (v119 4).toInt ≠ 0)) := wu_120
                refine lv_if_ne (tgt := 118) hx hb dX12_readTune_114 (by decide) (fun c_121 => ?_) (fun c_121 => ?_)
                · have q_122 : ¬ r_u_120.toInt = (0 : Int32).toInt := by have := (not_congr (ow_eq _ _)).mp c_121; omega
                  refine lv_aload_n hx hb dX12_readTune_118 rfl (lv_at hl 4 rfl) ?_
                  refine mg_16 hx hb ht hown hK hP dX12_readTune_119 ?_
                  refine lv_bipush (v := 40) hx hb dX12_readTune_122 (by decide) ?_
                  refine lv_iload_n hx hb dX12_readTune_124 rfl (lv_at hl 3 rfl) ?_
                  refine lv_imul hx hb dX12_readTune_125 ?_
                  refine lv_topi (fun v_123 ev_123 => ?_)
                  have q_124 : v_123.toInt = 40 * v_8.toInt := ow_mul ev_123 (by decide) (by omega) (by omega)
                  refine lv_aload_n hx hb dX12_readTune_126 rfl (lv_at hl 4 rfl) ?_
                  refine mg_15 hx hb ht hown hK hP dX12_readTune_127 ?_
                  refine lv_iload_n hx hb dX12_readTune_130 rfl (lv_at hl 3 rfl) ?_
                  have q_125 : vp_in v_8 30 := vp_in_iff.mpr ⟨by omega, by omega⟩
                  refine ml_15 hx hb hK hP q_125 dX12_readTune_131 ?_
                  refine lv_topi (fun v_126 ev_126 => ?_)
                  have q_127 : 0 ≤ v_126.toInt ∧ v_126.toInt ≤ 12 := by rw [ev_126]; exact MIf.rd 15 hf q_125
                  have q_128 : v_126.toInt = ((f16 15) (Int32.toNatClampNeg v_8)).toInt := (congrArg Int32.toInt ev_126).trans (congrArg (fun z : Nat → Int32 => (z (Int32.toNatClampNeg v_8)).toInt) (show f16 15 = (f16 15) from rfl))
                  refine lv_iadd hx hb dX12_readTune_132 ?_
                  refine lv_topi (fun v_129 ev_129 => ?_)
                  have q_130 : v_129.toInt = v_123.toInt + v_126.toInt := ow_add ev_129 (by omega) (by omega)
                  refine lv_iload hx hb dX12_readTune_133 (lv_at hl 1 rfl) ?_
                  have q_131 : vp_in v_129 1200 := vp_in_iff.mpr ⟨by omega, by omega⟩
                  refine ms_16 hx hb hK hP hD hS q_131 dX12_readTune_135 (fun H locs hP hD hS => ?_)
                  replace hf := MIf.up 16 (i := (Int32.toNatClampNeg v_129)) hf (ow_any r_u_118)
                  replace hF_0 := FF.up hF_0 16 (upd (f16 16) (Int32.toNatClampNeg v_129) r_u_118) (by decide)
                  replace hY_16 := FF.up hY_16 16 (upd (f16 16) (Int32.toNatClampNeg v_129) r_u_118) (by decide)
                  replace hL : WL v119 (va_up f16 16 (upd (f16 16) (Int32.toNatClampNeg v_129) r_u_118)) := WL.upf 16 hL (by decide)
                  replace hR : RI v119 (va_up f16 16 (upd (f16 16) (Int32.toNatClampNeg v_129) r_u_118)) := RI.up 16 hR (by decide)
                  refine lv_aload_n hx hb dX12_readTune_136 rfl (lv_at hl 4 rfl) ?_
                  refine mg_17 hx hb ht hown hK hP dX12_readTune_137 ?_
                  refine lv_bipush (v := 40) hx hb dX12_readTune_140 (by decide) ?_
                  refine lv_iload_n hx hb dX12_readTune_142 rfl (lv_at hl 3 rfl) ?_
                  refine lv_imul hx hb dX12_readTune_143 ?_
                  refine lv_topi (fun v_132 ev_132 => ?_)
                  have q_133 : v_132.toInt = 40 * v_8.toInt := ow_mul ev_132 (by decide) (by omega) (by omega)
                  refine lv_aload_n hx hb dX12_readTune_144 rfl (lv_at hl 4 rfl) ?_
                  refine mg_15 hx hb ht hown hK hP dX12_readTune_145 ?_
                  refine lv_iload_n hx hb dX12_readTune_148 rfl (lv_at hl 3 rfl) ?_
                  have q_134 : vp_in v_8 30 := vp_in_iff.mpr ⟨by omega, by omega⟩
                  refine ml_15 hx hb hK hP q_134 dX12_readTune_149 ?_
                  refine lv_topi (fun v_135 ev_135 => ?_)
                  have q_136 : 0 ≤ v_135.toInt ∧ v_135.toInt ≤ 12 := by rw [ev_135]; exact MIf.rd 15 hf q_134
                  have q_137 : v_135.toInt = ((f16 15) (Int32.toNatClampNeg v_8)).toInt := (congrArg Int32.toInt ev_135).trans (congrArg (fun z : Nat → Int32 => (z (Int32.toNatClampNeg v_8)).toInt) (show (va_up f16 16 (upd (f16 16) (Int32.toNatClampNeg v_129) r_u_118)) 15 = (f16 15) from rfl))
                  refine lv_iadd hx hb dX12_readTune_150 ?_
                  refine lv_topi (fun v_138 ev_138 => ?_)
                  have q_139 : v_138.toInt = v_132.toInt + v_135.toInt := ow_add ev_138 (by omega) (by omega)
                  refine lv_iload hx hb dX12_readTune_151 (lv_at hl 0 rfl) ?_
                  have q_140 : vp_in v_138 1200 := vp_in_iff.mpr ⟨by omega, by omega⟩
                  refine ms_17 hx hb hK hP hD hS q_140 dX12_readTune_153 (fun H locs hP hD hS => ?_)
                  replace hf := MIf.up 17 (i := (Int32.toNatClampNeg v_138)) hf (show 0 ≤ r_u_119.toInt ∧ r_u_119.toInt ≤ 9 from by omega)
                  replace hF_0 := FF.up hF_0 17 (upd ((va_up f16 16 (upd (f16 16) (Int32.toNatClampNeg v_129) r_u_118)) 17) (Int32.toNatClampNeg v_138) r_u_119) (by decide)
                  replace hY_16 := FF.up hY_16 17 (upd ((va_up f16 16 (upd (f16 16) (Int32.toNatClampNeg v_129) r_u_118)) 17) (Int32.toNatClampNeg v_138) r_u_119) (by decide)
                  replace hL : WL v119 (va_up (va_up f16 16 (upd (f16 16) (Int32.toNatClampNeg v_129) r_u_118)) 17 (upd ((va_up f16 16 (upd (f16 16) (Int32.toNatClampNeg v_129) r_u_118)) 17) (Int32.toNatClampNeg v_138) r_u_119)) := WL.upf 17 hL (by decide)
                  replace hR : RI v119 (va_up (va_up f16 16 (upd (f16 16) (Int32.toNatClampNeg v_129) r_u_118)) 17 (upd ((va_up f16 16 (upd (f16 16) (Int32.toNatClampNeg v_129) r_u_118)) 17) (Int32.toNatClampNeg v_138) r_u_119)) := RI.up 17 hR (by decide)
                  refine lv_aload_n hx hb dX12_readTune_154 rfl (lv_at hl 4 rfl) ?_
                  refine mg_15 hx hb ht hown hK hP dX12_readTune_155 ?_
                  refine lv_iload_n hx hb dX12_readTune_158 rfl (lv_at hl 3 rfl) ?_
                  refine lv_dup2_11 hx hb dX12_readTune_159 rfl rfl ?_
                  have q_141 : vp_in v_8 30 := vp_in_iff.mpr ⟨by omega, by omega⟩
                  refine ml_15 hx hb hK hP q_141 dX12_readTune_160 ?_
                  refine lv_topi (fun v_142 ev_142 => ?_)
                  have q_143 : 0 ≤ v_142.toInt ∧ v_142.toInt ≤ 12 := by rw [ev_142]; exact MIf.rd 15 hf q_141
                  have q_144 : v_142.toInt = ((f16 15) (Int32.toNatClampNeg v_8)).toInt := (congrArg Int32.toInt ev_142).trans (congrArg (fun z : Nat → Int32 => (z (Int32.toNatClampNeg v_8)).toInt) (show (va_up (va_up f16 16 (upd (f16 16) (Int32.toNatClampNeg v_129) r_u_118)) 17 (upd ((va_up f16 16 (upd (f16 16) (Int32.toNatClampNeg v_129) r_u_118)) 17) (Int32.toNatClampNeg v_138) r_u_119)) 15 = (f16 15) from rfl))
                  refine lv_iconst (v := 1) hx hb dX12_readTune_161 (by decide) ?_
                  refine lv_iadd hx hb dX12_readTune_162 ?_
                  refine lv_topi (fun v_145 ev_145 => ?_)
                  have q_146 : v_145.toInt = v_142.toInt + (1 : Int32).toInt := ow_add ev_145 (by omega) (by omega)
                  have q_147 : vp_in v_8 30 := vp_in_iff.mpr ⟨by omega, by omega⟩
                  refine ms_15 hx hb hK hP hD hS q_147 dX12_readTune_163 (fun H locs hP hD hS => ?_)
                  replace hf := MIf.up 15 (i := (Int32.toNatClampNeg v_8)) hf (show 0 ≤ v_145.toInt ∧ v_145.toInt ≤ 12 from by omega)
                  replace hF_0 := FF.up hF_0 15 (upd ((va_up (va_up f16 16 (upd (f16 16) (Int32.toNatClampNeg v_129) r_u_118)) 17 (upd ((va_up f16 16 (upd (f16 16) (Int32.toNatClampNeg v_129) r_u_118)) 17) (Int32.toNatClampNeg v_138) r_u_119)) 15) (Int32.toNatClampNeg v_8) v_145) (by decide)
                  replace hY_16 := FF.up hY_16 15 (upd ((va_up (va_up f16 16 (upd (f16 16) (Int32.toNatClampNeg v_129) r_u_118)) 17 (upd ((va_up f16 16 (upd (f16 16) (Int32.toNatClampNeg v_129) r_u_118)) 17) (Int32.toNatClampNeg v_138) r_u_119)) 15) (Int32.toNatClampNeg v_8) v_145) (by decide)
                  replace hL : WL v119 (va_up (va_up (va_up f16 16 (upd (f16 16) (Int32.toNatClampNeg v_129) r_u_118)) 17 (upd ((va_up f16 16 (upd (f16 16) (Int32.toNatClampNeg v_129) r_u_118)) 17) (Int32.toNatClampNeg v_138) r_u_119)) 15 (upd ((va_up (va_up f16 16 (upd (f16 16) (Int32.toNatClampNeg v_129) r_u_118)) 17 (upd ((va_up f16 16 (upd (f16 16) (Int32.toNatClampNeg v_129) r_u_118)) 17) (Int32.toNatClampNeg v_138) r_u_119)) 15) (Int32.toNatClampNeg v_8) v_145)) := WL.upf 15 hL (by decide)
                  replace hR : RI v119 (va_up (va_up (va_up f16 16 (upd (f16 16) (Int32.toNatClampNeg v_129) r_u_118)) 17 (upd ((va_up f16 16 (upd (f16 16) (Int32.toNatClampNeg v_129) r_u_118)) 17) (Int32.toNatClampNeg v_138) r_u_119)) 15 (upd ((va_up (va_up f16 16 (upd (f16 16) (Int32.toNatClampNeg v_129) r_u_118)) 17 (upd ((va_up f16 16 (upd (f16 16) (Int32.toNatClampNeg v_129) r_u_118)) 17) (Int32.toNatClampNeg v_138) r_u_119)) 15) (Int32.toNatClampNeg v_8) v_145)) := RI.up 15 hR (by decide)
                  refine lv_goto (tgt := 53) hx hb dX12_readTune_164 (by decide) ?_
                  refine W.widen (k := 0) (n := 0) (Nat.le_of_ble_eq_true rfl) (Nat.le_of_ble_eq_true rfl) ?_
                  exact ih_16 v119 nm119 (va_up (va_up (va_up f16 16 (upd (f16 16) (Int32.toNatClampNeg v_129) r_u_118)) 17 (upd ((va_up f16 16 (upd (f16 16) (Int32.toNatClampNeg v_129) r_u_118)) 17) (Int32.toNatClampNeg v_138) r_u_119)) 15 (upd ((va_up (va_up f16 16 (upd (f16 16) (Int32.toNatClampNeg v_129) r_u_118)) 17 (upd ((va_up f16 16 (upd (f16 16) (Int32.toNatClampNeg v_129) r_u_118)) 17) (Int32.toNatClampNeg v_138) r_u_119)) 15) (Int32.toNatClampNeg v_8) v_145)) g16 _ _ _ hv hf hR hL hW_16 hY_16 (show (v119 7).toInt ≤ (v 3).toInt ∧ ((v119 4).toInt ≠ 0 ∨ (v 4).toInt = 0) ∧ 0 ≤ mz (v 3).toInt (v119 7).toInt (v119 8).toInt ∧ mz (v 3).toInt (v119 7).toInt (v119 8).toInt ≤ mz (v 3).toInt (v 7).toInt (v 8).toInt from by omega) (show (mz (v 3).toInt (v119 7).toInt (v119 8).toInt).toNat < N_16 from by omega) hP hD hS (lv_sub hl [2, 3, 4] rfl)
                · have q_148 : r_u_120.toInt = (0 : Int32).toInt := (ow_eq _ _).mp c_121
                  refine W.widen (k := 0) (n := 0) (Nat.le_of_ble_eq_true rfl) (Nat.le_of_ble_eq_true rfl) ?_
                  exact W.vret hx hb hr (fun t ht9 hW => ⟨⟨(v119, nm119, f16, g16), rfl, ⟨hv, hf, hR, hL, hV_0, hF_0, (show (v119 7).toInt ≤ (v 3).toInt ∧ ((v119 4).toInt ≠ 0 ∨ (v 4).toInt = 0) from by first | omega | (subst_vars; first | rfl | omega)), (show 0 ≤ mz (v 3).toInt (v119 7).toInt (v119 8).toInt ∧ mz (v 3).toInt (v119 7).toInt (v119 8).toInt ≤ mz (v 3).toInt (v 7).toInt (v 8).toInt from by omega)⟩, ⟨by rw [ht9]; exact hP, hD⟩⟩, hS.F ht9⟩) hS.2.2 dX12_readTune_117
    exact lp_16 _ v14 nm14 (va_up f 15 (upd (f 15) (Int32.toNatClampNeg v_8) 0)) g _ _ _ hv hf hR hL FV.rf FF.rf (show (v14 7).toInt ≤ (v 3).toInt ∧ ((v14 4).toInt ≠ 0 ∨ (v 4).toInt = 0) ∧ 0 ≤ mz (v 3).toInt (v14 7).toInt (v14 8).toInt ∧ mz (v 3).toInt (v14 7).toInt (v14 8).toInt ≤ mz (v 3).toInt (v 7).toInt (v 8).toInt from by omega) (Nat.lt_succ_self _) hP hD hS (lv_sub hl [0, 1, 2] rfl)
  refine lv_if_lt (tgt := 30) hx hb dX12_readTune_23 (by decide) (fun c_149 => ?_) (fun c_149 => ?_)
  · have q_150 : r_u_10.toInt < (0 : Int32).toInt := (ow_lt _ _).mp c_149
    refine lv_iconst (v := 0) hx hb dX12_readTune_30 (by decide) ?_
    refine W.widen (k := 0) (n := 0) (Nat.le_of_ble_eq_true rfl) (Nat.le_of_ble_eq_true rfl) ?_
    exact jn_11 (0) _ _ _ (by omega) hP hD hS (lv_sub hl [0, 1] rfl)
  · have q_151 : (0 : Int32).toInt ≤ r_u_10.toInt := by have := (not_congr (ow_lt _ _)).mp c_149; omega
    refine lv_iconst (v := 1) hx hb dX12_readTune_26 (by decide) ?_
    refine lv_goto (tgt := 31) hx hb dX12_readTune_27 (by decide) ?_
    refine W.widen (k := 0) (n := 0) (Nat.le_of_ble_eq_true rfl) (Nat.le_of_ble_eq_true rfl) ?_
    exact jn_11 (1) _ _ _ (by omega) hP hD hS (lv_sub hl [0, 1] rfl)
set_option maxHeartbeats 4000000 in
set_option maxRecDepth 100000 in
theorem m_readSweet (l : Launch) (G : va_G) (cy : Nat → ClassId) (sz : Nat) (mo : Nat) (h : Nat → Nat) (T : Int) (v : Nat → Int32) (nm : Int64) (f : Nat → Nat → Int32) (g : Nat → Nat → Int64)   (hv : MIv T v) (hf : MIf f) (hR : RI v f) (hL : WL v f) (he : (v 7).toInt ≤ (v 3).toInt) : Met l yX12_readSweet (.code yX12_readSweet cX12_readSweet 4 none :: TBg) ({ frames := 4, cells := 0, slots := 0, locals := 256 }) (va_Pc [.ref mo] (En G cy (WMs cy mo h v nm f g) sz)) (va_Qv (fun (u : (Nat → Int32) × Int64 × (Nat → Nat → Int32) × (Nat → Nat → Int64)) => MIv T u.1 ∧ MIf u.2.2.1 ∧ RI u.1 u.2.2.1 ∧ WL u.1 u.2.2.1 ∧ FV [4, 5, 6, 7, 8, 9] v u.1 ∧ FF [14, 21] f u.2.2.1 ∧ (((u.1 7).toInt ≤ (v 3).toInt ∧ ((u.1 4).toInt ≠ 0 ∨ (v 4).toInt = 0))) ∧ (0 ≤ mz (v 3).toInt (u.1 7).toInt (u.1 8).toInt ∧ mz (v 3).toInt (u.1 7).toInt (u.1 8).toInt ≤ mz (v 3).toInt (v 7).toInt (v 8).toInt)) (fun u t => Ex G (va_A (WMs cy mo h v nm f g) sz) (WMs cy mo h u.1 u.2.1 u.2.2.1 u.2.2.2) t) (va_A (WMs cy mo h v nm f g) sz)) 0 0 (va_A (WMs cy mo h v nm f g) sz) := by
  refine Met.ofW (cc := cX12_readSweet) (maxL := 4) (ret := none) (by decide) rfl ?_
  intro p e s m args below meth c s₁ B hml hv9
  obtain ⟨rfl, hsz, hP, hK, hD0, hN⟩ := hv9
  have hx := B.exec
  have hb := B.bytes
  have hr := B.returns
  have hts := atoms_spec (ws := .code yX12_readSweet cX12_readSweet 4 none :: TBg) B.pre
  have ht : ∀ w ∈ TBg, w.before _ s = true := fun w h => hts w (List.mem_cons_of_mem _ h)
  have hown : s.vm.findClass RX12 = some m.cls := findClass_of_methodNamed B.named
  have hlocks := B.notSynchronized
  subst hsz
  have hD := hD0.self (sz := s.heap.size)
  generalize hAe : va_A (WMs cy mo h v nm f g) s.heap.size = A at hD ⊢
  have hA : ∀ q : Nat, s.heap.size ≤ q → A q := fun q h => by rw [← hAe]; exact Or.inr h
  have hS : va_S A s.heap s.heap [] := va_S.rf
  have hl := lv_entry ([.ref mo]) (n := 4) (Nat.le_of_ble_eq_true rfl)
  rw [lg_entry_eq]
  generalize (lg_sl ([.ref mo]) ++ List.replicate (4 - (lg_sl ([.ref mo])).length) Slot.unset).toArray = ls at hl ⊢
  have hl : lv_has ls 4 [(0, .ref mo)] := hl
  have z0 : (0 : Int32).toInt = 0 := by decide
  have z1 : (1 : Int32).toInt = 1 := by decide
  have z2 : (3 : Int32).toInt = 3 := by decide
  have z3 : (4 : Int32).toInt = 4 := by decide
  have z4 : (11 : Int32).toInt = 11 := by decide
  have z5 : (12 : Int32).toInt = 12 := by decide
  have hf_0 := hf
  have hV_0 : FV [4, 5, 6, 7, 8, 9] v v := FV.rf
  have hF_0 : FF [14, 21] f f := FF.rf
  have hmz0 : 0 ≤ mz (v 3).toInt (v 7).toInt (v 8).toInt := mz_nn he
  refine lv_aload_n hx hb dX12_readSweet_0 rfl (lv_at hl 0 rfl) ?_
  refine mg_21 hx hb ht hown hK hP dX12_readSweet_1 ?_
  refine lv_aload_n hx hb dX12_readSweet_4 rfl (lv_at hl 0 rfl) ?_
  refine mg_30 hx hb ht hown hK hP dX12_readSweet_5 ?_
  have q_1 : 0 ≤ (v 30).toInt ∧ (v 30).toInt ≤ 1 := hv 30
  refine lv_iconst (v := 1) hx hb dX12_readSweet_8 (by decide) ?_
  have q_2 : vp_in (v 30) 2 := vp_in_iff.mpr ⟨by omega, by omega⟩
  refine ms_21 hx hb hK hP hD hS q_2 dX12_readSweet_9 (fun H locs hP hD hS => ?_)
  replace hf := MIf.up 21 (i := (Int32.toNatClampNeg (v 30))) hf (ow_any (vp_nar .boolean 1))
  replace hF_0 := FF.up hF_0 21 (upd (f 21) (Int32.toNatClampNeg (v 30)) (vp_nar .boolean 1)) (by decide)
  replace hL : WL v (va_up f 21 (upd (f 21) (Int32.toNatClampNeg (v 30)) (vp_nar .boolean 1))) := WL.upf 21 hL (by decide)
  replace hR : RI v (va_up f 21 (upd (f 21) (Int32.toNatClampNeg (v 30)) (vp_nar .boolean 1))) := RI.up 21 hR (by decide)
  refine lv_iconst (v := 0) hx hb dX12_readSweet_10 (by decide) ?_
  refine lv_istore_n (lv' := [(1, .int 0), (0, .ref mo)]) hx hb dX12_readSweet_11 rfl hl (by decide) rfl (fun ls hl => ?_)
  refine lv_iconst (v := 0) hx hb dX12_readSweet_12 (by decide) ?_
  refine lv_istore_n (lv' := [(2, .int 0), (1, .int 0), (0, .ref mo)]) hx hb dX12_readSweet_13 rfl hl (by decide) rfl (fun ls hl => ?_)
  refine W.widen (k := 0) (n := 0) (Nat.le_of_ble_eq_true rfl) (Nat.le_of_ble_eq_true rfl) ?_
  have lp_3 : ∀ (N_3 : Nat) (x2_3 : Int32) (x1_3 : Int32) (v3 : Nat → Int32) (nm3 : Int64) (f3 : Nat → Nat → Int32) (g3 : Nat → Nat → Int64) (H : Heap) (locs : List Loc) (ls : Array Slot), MIv T v3 → MIf f3 → RI v3 f3 → WL v3 f3 → FV [4, 5, 6, 7, 8, 9] v v3 → FF [] (va_up f 21 (upd (f 21) (Int32.toNatClampNeg (v 30)) (vp_nar .boolean 1))) f3 → ((v3 7).toInt ≤ (v 3).toInt ∧ ((v3 4).toInt ≠ 0 ∨ (v 4).toInt = 0) ∧ 0 ≤ mz (v 3).toInt (v3 7).toInt (v3 8).toInt ∧ mz (v 3).toInt (v3 7).toInt (v3 8).toInt ≤ mz (v 3).toInt (v 7).toInt (v 8).toInt) → tkm (mz (v 3).toInt (v3 7).toInt (v3 8).toInt) (v3 4).toInt < N_3 → va_P G vwCl (WMs cy mo h v3 nm3 f3 g3) H → va_D A (WMs cy mo h v3 nm3 f3 g3) → va_S A s.heap H locs → lv_has ls 4 [(2, .int x2_3), (1, .int x1_3), (0, .ref mo)] → W p l e (headSpec (.code yX12_readSweet cX12_readSweet 4 none :: TBg) ({ frames := 4, cells := 0, slots := 0, locals := 256 })).room s m ([.ref mo] : List Value).toArray below meth c H locs 0 0 (MQ below (va_Qv (fun (u : (Nat → Int32) × Int64 × (Nat → Nat → Int32) × (Nat → Nat → Int64)) => MIv T u.1 ∧ MIf u.2.2.1 ∧ RI u.1 u.2.2.1 ∧ WL u.1 u.2.2.1 ∧ FV [4, 5, 6, 7, 8, 9] v u.1 ∧ FF [14, 21] f u.2.2.1 ∧ (((u.1 7).toInt ≤ (v 3).toInt ∧ ((u.1 4).toInt ≠ 0 ∨ (v 4).toInt = 0))) ∧ (0 ≤ mz (v 3).toInt (u.1 7).toInt (u.1 8).toInt ∧ mz (v 3).toInt (u.1 7).toInt (u.1 8).toInt ≤ mz (v 3).toInt (v 7).toInt (v 8).toInt)) (fun u t => Ex G A (WMs cy mo h u.1 u.2.1 u.2.2.1 u.2.2.2) t) A) ([.ref mo] : List Value).toArray s 0 0 A) (F0 m 14 ls []) := by
    intro N_3
    induction N_3 with
    | zero => intro x2_3 x1_3 v3 nm3 f3 g3 H locs ls hv hf hR hL hV_3 hF_3 qf3_0 hm hP hD hS hl; exact absurd hm (Nat.not_lt_zero _)
    | succ N_3 ih_3 =>
      intro x2_3 x1_3 v3 nm3 f3 g3 H locs ls hv hf hR hL hV_3 hF_3 qf3_0 hm hP hD hS hl
      replace hV_0 := FV.tr hV_0 hV_3 (by decide)
      replace hF_0 := FF.tr hF_0 hF_3 (by decide)
      replace hW_3 := hV_3
      replace hY_3 := hF_3
      refine lv_aload_n hx hb dX12_readSweet_14 rfl (lv_at hl 2 rfl) ?_
      have hFc := fr_new hS hA
      refine va_calli (va_runV (As := []) (rest := []) ⟨hx, hb, hml, hown, ht⟩ (m_isGood l G cy _ mo h T v3 nm3 f3 g3   hv hf hR hL) (cwV 0 ht (gv k_224 k_225 k_226 k_61 k_223) rfl rfl rfl (by decide +kernel) ⟨Nat.le_of_ble_eq_true rfl, Nat.le_of_ble_eq_true rfl⟩) ⟨En.blind, va_recv hK hP (ci := 12) (q0 := 0) rfl rfl, fun U hU hW => ⟨rfl, En.of hU hW hP hK hD hN⟩⟩ rfl rfl hl.1 rfl (lv_room (Nat.le_of_ble_eq_true rfl)) dX12_readSweet_15 ⟨Nat.le_of_ble_eq_true rfl, Nat.le_of_ble_eq_true rfl⟩) hS (fun q _ h => hFc q h) hFc (fun r_u_4 u_4 t9 H locs ht9 hvm hw hB hz1 hk1 hS => ?_)
      have hP := fr_keep hP hk1
      have wu_4 := hw
      clear hFc hk1 hz1 hB hw
      replace wu_4 : (r_u_4.toInt = 0 ∨ r_u_4.toInt = 1) ∧ ((r_u_4.toInt = 1 ∧ (v3 4).toInt = 0) ∨ (r_u_4.toInt = 0 ∧ (v3 4).toInt ≠ 0)) := wu_4
      refine lv_if_eq (tgt := 108) hx hb dX12_readSweet_18 (by decide) (fun c_5 => ?_) (fun c_5 => ?_)
      · have q_6 : r_u_4.toInt = (0 : Int32).toInt := (ow_eq _ _).mp c_5
        refine lv_aload_n hx hb dX12_readSweet_108 rfl (lv_at hl 2 rfl) ?_
        refine mg_14 hx hb ht hown hK hP dX12_readSweet_109 ?_
        refine lv_aload_n hx hb dX12_readSweet_112 rfl (lv_at hl 2 rfl) ?_
        refine mg_30 hx hb ht hown hK hP dX12_readSweet_113 ?_
        refine ow_top (v 30) (hV_3 30 (by decide)) ?_
        have q_7 : 0 ≤ (v 30).toInt ∧ (v 30).toInt ≤ 1 := by have h9 : v3 30 = (v 30) := (hV_3 30 (by decide)); rw [← h9]; exact hv 30
        refine lv_iload_n hx hb dX12_readSweet_116 rfl (lv_at hl 1 rfl) ?_
        have q_8 : vp_in (v 30) 2 := vp_in_iff.mpr ⟨by omega, by omega⟩
        refine ms_14 hx hb hK hP hD hS q_8 dX12_readSweet_117 (fun H locs hP hD hS => ?_)
        replace hf := MIf.up 14 (i := (Int32.toNatClampNeg (v 30))) hf (ow_any x1_3)
        replace hF_0 := FF.up hF_0 14 (upd (f3 14) (Int32.toNatClampNeg (v 30)) x1_3) (by decide)
        replace hL : WL v3 (va_up f3 14 (upd (f3 14) (Int32.toNatClampNeg (v 30)) x1_3)) := WL.upf 14 hL (by decide)
        replace hR : RI v3 (va_up f3 14 (upd (f3 14) (Int32.toNatClampNeg (v 30)) x1_3)) := RI.up 14 hR (by decide)
        refine W.widen (k := 0) (n := 0) (Nat.le_of_ble_eq_true rfl) (Nat.le_of_ble_eq_true rfl) ?_
        exact W.vret hx hb hr (fun t ht9 hW => ⟨⟨(v3, nm3, (va_up f3 14 (upd (f3 14) (Int32.toNatClampNeg (v 30)) x1_3)), g3), rfl, ⟨hv, hf, hR, hL, hV_0, hF_0, (show (v3 7).toInt ≤ (v 3).toInt ∧ ((v3 4).toInt ≠ 0 ∨ (v 4).toInt = 0) from by first | omega | (subst_vars; first | rfl | omega)), (show 0 ≤ mz (v 3).toInt (v3 7).toInt (v3 8).toInt ∧ mz (v 3).toInt (v3 7).toInt (v3 8).toInt ≤ mz (v 3).toInt (v 7).toInt (v 8).toInt from by omega)⟩, ⟨by rw [ht9]; exact hP, hD⟩⟩, hS.F ht9⟩) hS.2.2 dX12_readSweet_118
      · have q_9 : ¬ r_u_4.toInt = (0 : Int32).toInt := by have := (not_congr (ow_eq _ _)).mp c_5; omega
        refine lv_iload_n hx hb dX12_readSweet_21 rfl (lv_at hl 0 rfl) ?_
        refine lv_if_eq (tgt := 33) hx hb dX12_readSweet_22 (by decide) (fun c_10 => ?_) (fun c_10 => ?_)
        · have q_11 : x2_3.toInt = (0 : Int32).toInt := (ow_eq _ _).mp c_10
          refine W.widen (k := 0) (n := 0) (Nat.le_of_ble_eq_true rfl) (Nat.le_of_ble_eq_true rfl) ?_
          have jn_12 : ∀ (v12 : Nat → Int32) (nm12 : Int64) (H : Heap) (locs : List Loc) (ls : Array Slot), MIv T v12 → FV [4, 5] v3 v12 → ((v12 4).toInt ≠ 0 ∨ (v 4).toInt = 0) → va_P G vwCl (WMs cy mo h v12 nm12 f3 g3) H → va_D A (WMs cy mo h v12 nm12 f3 g3) → va_S A s.heap H locs → lv_has ls 4 [(2, .int x2_3), (1, .int x1_3), (0, .ref mo)] → W p l e (headSpec (.code yX12_readSweet cX12_readSweet 4 none :: TBg) ({ frames := 4, cells := 0, slots := 0, locals := 256 })).room s m ([.ref mo] : List Value).toArray below meth c H locs 0 0 (MQ below (va_Qv (fun (u : (Nat → Int32) × Int64 × (Nat → Nat → Int32) × (Nat → Nat → Int64)) => MIv T u.1 ∧ MIf u.2.2.1 ∧ RI u.1 u.2.2.1 ∧ WL u.1 u.2.2.1 ∧ FV [4, 5, 6, 7, 8, 9] v u.1 ∧ FF [14, 21] f u.2.2.1 ∧ (((u.1 7).toInt ≤ (v 3).toInt ∧ ((u.1 4).toInt ≠ 0 ∨ (v 4).toInt = 0))) ∧ (0 ≤ mz (v 3).toInt (u.1 7).toInt (u.1 8).toInt ∧ mz (v 3).toInt (u.1 7).toInt (u.1 8).toInt ≤ mz (v 3).toInt (v 7).toInt (v 8).toInt)) (fun u t => Ex G A (WMs cy mo h u.1 u.2.1 u.2.2.1 u.2.2.2) t) A) ([.ref mo] : List Value).toArray s 0 0 A) (F0 m 88 ls []) := by
            intro v12 nm12 H locs ls hv hV_12 qf12_0 hP hD hS hl
            replace hR : RI v12 f3 := RI.fv hR hV_12 (by decide)
            replace hL : WL v12 f3 := WL.fv hL hV_12 (by decide) (by decide)
            replace hV_0 := FV.tr hV_0 hV_12 (by decide)
            replace hW_3 := FV.tr hW_3 hV_12 (by decide)
            refine lv_aload_n hx hb dX12_readSweet_88 rfl (lv_at hl 2 rfl) ?_
            refine lv_iconst (v := 0) hx hb dX12_readSweet_89 (by decide) ?_
            refine lv_bipush (v := 11) hx hb dX12_readSweet_90 (by decide) ?_
            have hFc := fr_free hD hS hA
            refine va_calli (va_runV (As := [.int 0, .int 11]) (rest := []) ⟨hx, hb, hml, hown, ht⟩ (m_numeral l G cy _ mo h T v12 nm12 f3 g3 (0) (11)  hv hf hR hL (show (0 : Int32).toInt ≤ (11 : Int32).toInt from by omega) (show (v12 7).toInt ≤ (v12 3).toInt from by rw [(show v12 7 = (v3 7) from (hV_12 7 (by decide))), (show v12 3 = (v 3) from ((hV_12 3 (by decide)).trans (hV_3 3 (by decide))))]; omega)) (cwV 2 ht (gv k_288 k_289 k_290 k_61 k_287) rfl rfl rfl (by decide +kernel) ⟨Nat.le_of_ble_eq_true rfl, Nat.le_of_ble_eq_true rfl⟩) ⟨En.blind, va_recv hK hP (ci := 12) (q0 := 0) rfl rfl, fun U hU hW => ⟨rfl, En.of hU hW hP hK hD hN⟩⟩ rfl rfl hl.1 rfl (lv_room (Nat.le_of_ble_eq_true rfl)) dX12_readSweet_92 ⟨Nat.le_of_ble_eq_true rfl, Nat.le_of_ble_eq_true rfl⟩) hS (fun q _ h => hFc q h) hFc (fun r_u_13 u_13 t9 H locs ht9 hvm hw hB hz1 hk1 hS => ?_)
            obtain ⟨v13, nm13⟩ := u_13
            obtain ⟨hP1, hD1⟩ := hB
            rw [ht9] at hP1
            obtain ⟨hv, xu_13V, wu_13, xu_13_M⟩ := hw
            dsimp only at hv xu_13V wu_13 xu_13_M
            have hP : va_P G vwCl (WMs cy mo h v13 nm13 f3 g3) H := hP1
            have hD : va_D A (WMs cy mo h v13 nm13 f3 g3) := hD1.weaken (fun _ _ _ h => hFc _ h)
            replace hR : RI v13 f3 := RI.fv hR xu_13V (by decide)
            replace hL : WL v13 f3 := WL.fv hL xu_13V (by decide) (by decide)
            replace hV_0 := FV.tr hV_0 xu_13V (by decide)
            replace hW_3 := FV.tr hW_3 xu_13V (by decide)
            clear hFc hk1 hz1 hP1 hD1
            replace wu_13 : ((0 : Int32).toInt ≤ r_u_13.toInt ∧ r_u_13.toInt ≤ (11 : Int32).toInt ∧ (v13 7).toInt ≤ (v 3).toInt ∧ ((v13 4).toInt ≠ 0 ∨ ((v12 4).toInt = 0 ∧ (v3 8).toInt = 4))) := by
              have h9 : ((0 : Int32).toInt ≤ r_u_13.toInt ∧ r_u_13.toInt ≤ (11 : Int32).toInt ∧ (v13 7).toInt ≤ (v12 3).toInt ∧ ((v13 4).toInt ≠ 0 ∨ ((v12 4).toInt = 0 ∧ (v12 8).toInt = 4))) := wu_13
              rw [(show v12 3 = (v 3) from ((hV_12 3 (by decide)).trans (hV_3 3 (by decide)))), (show v12 8 = (v3 8) from (hV_12 8 (by decide)))] at h9
              exact h9
            replace xu_13_M : 0 ≤ mz (v 3).toInt (v13 7).toInt (v13 8).toInt ∧ mz (v 3).toInt (v13 7).toInt (v13 8).toInt ≤ mz (v 3).toInt (v3 7).toInt (v3 8).toInt ∧ ((v13 4).toInt ≠ 0 ∨ mz (v 3).toInt (v13 7).toInt (v13 8).toInt < mz (v 3).toInt (v3 7).toInt (v3 8).toInt) := by
              have h9 : 0 ≤ mz (v12 3).toInt (v13 7).toInt (v13 8).toInt ∧ mz (v12 3).toInt (v13 7).toInt (v13 8).toInt ≤ mz (v12 3).toInt (v12 7).toInt (v12 8).toInt ∧ ((v13 4).toInt ≠ 0 ∨ mz (v12 3).toInt (v13 7).toInt (v13 8).toInt < mz (v12 3).toInt (v12 7).toInt (v12 8).toInt) := xu_13_M
              rw [(show v12 3 = (v 3) from ((hV_12 3 (by decide)).trans (hV_3 3 (by decide)))), (show v12 7 = (v3 7) from (hV_12 7 (by decide))), (show v12 8 = (v3 8) from (hV_12 8 (by decide)))] at h9
              exact h9
            refine lv_istore_n (lv' := [(3, .int r_u_13), (2, .int x2_3), (1, .int x1_3), (0, .ref mo)]) hx hb dX12_readSweet_95 rfl hl (by decide) rfl (fun ls hl => ?_)
            refine lv_iload_n hx hb dX12_readSweet_96 rfl (lv_at hl 2 rfl) ?_
            refine lv_iconst (v := 1) hx hb dX12_readSweet_97 (by decide) ?_
            refine lv_iload_n hx hb dX12_readSweet_98 rfl (lv_at hl 0 rfl) ?_
            refine lv_ishl hx hb dX12_readSweet_99 ?_
            refine lv_topi (fun v_14 ev_14 => ?_)
            refine lv_ior hx hb dX12_readSweet_100 ?_
            refine lv_topi (fun v_15 ev_15 => ?_)
            refine lv_istore_n (lv' := [(1, .int v_15), (3, .int r_u_13), (2, .int x2_3), (0, .ref mo)]) hx hb dX12_readSweet_101 rfl hl (by decide) rfl (fun ls hl => ?_)
            obtain ⟨v_16, ev_16⟩ : ∃ y : Int32, y = x2_3 + 1 := ⟨_, rfl⟩
            refine lv_iinc (v := v_16) (lv' := [(2, .int v_16), (1, .int v_15), (3, .int r_u_13), (0, .ref mo)]) hx hb dX12_readSweet_102 hl (k := 2) rfl (by rw [ev_16]; rfl) (by decide) rfl (fun ls hl => ?_)
            have q_17 : v_16.toInt = x2_3.toInt + 1 := by have := ow_add ev_16 (by omega) (by omega); omega
            refine lv_goto (tgt := 14) hx hb dX12_readSweet_105 (by decide) ?_
            refine W.widen (k := 0) (n := 0) (Nat.le_of_ble_eq_true rfl) (Nat.le_of_ble_eq_true rfl) ?_
            exact ih_3 v_16 v_15 v13 nm13 f3 g3 _ _ _ hv hf hR hL hW_3 hY_3 (show (v13 7).toInt ≤ (v 3).toInt ∧ ((v13 4).toInt ≠ 0 ∨ (v 4).toInt = 0) ∧ 0 ≤ mz (v 3).toInt (v13 7).toInt (v13 8).toInt ∧ mz (v 3).toInt (v13 7).toInt (v13 8).toInt ≤ mz (v 3).toInt (v 7).toInt (v 8).toInt from by omega) (show tkm (mz (v 3).toInt (v13 7).toInt (v13 8).toInt) (v13 4).toInt < N_3 from by have h9 : tkm (mz (v 3).toInt (v13 7).toInt (v13 8).toInt) (v13 4).toInt < tkm (mz (v 3).toInt (v3 7).toInt (v3 8).toInt) (v3 4).toInt := tkm_lt (by omega) (by omega); omega) hP hD hS (lv_sub hl [0, 1, 3] rfl)
          replace hW_12 : FV [4, 5] v3 v3 := FV.rf
          refine lv_iload_n hx hb dX12_readSweet_33 rfl (lv_at hl 0 rfl) ?_
          refine lv_bipush (v := 12) hx hb dX12_readSweet_34 (by decide) ?_
          refine lv_icmp_ne (tgt := 43) hx hb dX12_readSweet_36 (by decide) (fun c_18 => ?_) (fun c_18 => ?_)
          · have q_19 : ¬ x2_3.toInt = (12 : Int32).toInt := by have := (not_congr (ow_eq _ _)).mp c_18; omega
            refine lv_aload_n hx hb dX12_readSweet_43 rfl (lv_at hl 2 rfl) ?_
            have hFc := fr_new hS hA
            refine va_calli (va_runV (As := []) (rest := []) ⟨hx, hb, hml, hown, ht⟩ (m_isGood l G cy _ mo h T v3 nm3 f3 g3   hv hf hR hL) (cwV 0 ht (gv k_224 k_225 k_226 k_61 k_223) rfl rfl rfl (by decide +kernel) ⟨Nat.le_of_ble_eq_true rfl, Nat.le_of_ble_eq_true rfl⟩) ⟨En.blind, va_recv hK hP (ci := 12) (q0 := 0) rfl rfl, fun U hU hW => ⟨rfl, En.of hU hW hP hK hD hN⟩⟩ rfl rfl hl.1 rfl (lv_room (Nat.le_of_ble_eq_true rfl)) dX12_readSweet_44 ⟨Nat.le_of_ble_eq_true rfl, Nat.le_of_ble_eq_true rfl⟩) hS (fun q _ h => hFc q h) hFc (fun r_u_20 u_20 t9 H locs ht9 hvm hw hB hz1 hk1 hS => ?_)
            have hP := fr_keep hP hk1
            have wu_20 := hw
            clear hFc hk1 hz1 hB hw
            replace wu_20 : (r_u_20.toInt = 0 ∨ r_u_20.toInt = 1) ∧ ((r_u_20.toInt = 1 ∧ (v3 4).toInt = 0) ∨ (r_u_20.toInt = 0 ∧ (v3 4).toInt ≠ 0)) := wu_20
            refine lv_if_eq (tgt := 88) hx hb dX12_readSweet_47 (by decide) (fun c_21 => ?_) (fun c_21 => ?_)
            · have q_22 : r_u_20.toInt = (0 : Int32).toInt := (ow_eq _ _).mp c_21
              refine W.widen (k := 0) (n := 0) (Nat.le_of_ble_eq_true rfl) (Nat.le_of_ble_eq_true rfl) ?_
              exact jn_12 v3 nm3 _ _ _ hv hW_12 (show (v3 4).toInt ≠ 0 ∨ (v 4).toInt = 0 from by omega) hP hD hS (lv_sub hl [0, 1, 2] rfl)
            · have q_23 : ¬ r_u_20.toInt = (0 : Int32).toInt := by have := (not_congr (ow_eq _ _)).mp c_21; omega
              refine lv_aload_n hx hb dX12_readSweet_50 rfl (lv_at hl 2 rfl) ?_
              refine mg_8 hx hb ht hown hK hP dX12_readSweet_51 ?_
              refine lv_iconst (v := 4) hx hb dX12_readSweet_54 (by decide) ?_
              refine lv_icmp_ne (tgt := 88) hx hb dX12_readSweet_55 (by decide) (fun c_24 => ?_) (fun c_24 => ?_)
              · have q_25 : ¬ (v3 8).toInt = (4 : Int32).toInt := by have := (not_congr (ow_eq _ _)).mp c_24; omega
                refine W.widen (k := 0) (n := 0) (Nat.le_of_ble_eq_true rfl) (Nat.le_of_ble_eq_true rfl) ?_
                exact jn_12 v3 nm3 _ _ _ hv hW_12 (show (v3 4).toInt ≠ 0 ∨ (v 4).toInt = 0 from by omega) hP hD hS (lv_sub hl [0, 1, 2] rfl)
              · have q_26 : (v3 8).toInt = (4 : Int32).toInt := (ow_eq _ _).mp c_24
                refine lv_aload_n hx hb dX12_readSweet_58 rfl (lv_at hl 2 rfl) ?_
                refine mg_9 hx hb ht hown hK hP dX12_readSweet_59 ?_
                refine lv_bipush (v := 12) hx hb dX12_readSweet_62 (by decide) ?_
                refine lv_icmp_ge (tgt := 88) hx hb dX12_readSweet_64 (by decide) (fun c_27 => ?_) (fun c_27 => ?_)
                · have q_28 : (12 : Int32).toInt ≤ (v3 9).toInt := (ow_le _ _).mp c_27
                  refine W.widen (k := 0) (n := 0) (Nat.le_of_ble_eq_true rfl) (Nat.le_of_ble_eq_true rfl) ?_
                  exact jn_12 v3 nm3 _ _ _ hv hW_12 (show (v3 4).toInt ≠ 0 ∨ (v 4).toInt = 0 from by omega) hP hD hS (lv_sub hl [0, 1, 2] rfl)
                · have q_29 : (v3 9).toInt < (12 : Int32).toInt := by have := (not_congr (ow_le _ _)).mp c_27; omega
                  refine lv_iload_n hx hb dX12_readSweet_67 rfl (lv_at hl 1 rfl) ?_
                  refine lv_aload_n hx hb dX12_readSweet_68 rfl (lv_at hl 2 rfl) ?_
                  refine mg_9 hx hb ht hown hK hP dX12_readSweet_69 ?_
                  refine lv_ishr hx hb dX12_readSweet_72 ?_
                  refine lv_topi (fun v_30 ev_30 => ?_)
                  refine lv_iconst (v := 1) hx hb dX12_readSweet_73 (by decide) ?_
                  refine lv_iand hx hb dX12_readSweet_74 ?_
                  refine lv_topi (fun v_31 ev_31 => ?_)
                  have q_32 : 0 ≤ v_31.toInt ∧ v_31.toInt ≤ 1 := by rw [ev_31]; exact ow_and1 _
                  refine lv_iconst (v := 1) hx hb dX12_readSweet_75 (by decide) ?_
                  refine lv_icmp_ne (tgt := 88) hx hb dX12_readSweet_76 (by decide) (fun c_33 => ?_) (fun c_33 => ?_)
                  · have q_34 : ¬ v_31.toInt = (1 : Int32).toInt := by have := (not_congr (ow_eq _ _)).mp c_33; omega
                    refine W.widen (k := 0) (n := 0) (Nat.le_of_ble_eq_true rfl) (Nat.le_of_ble_eq_true rfl) ?_
                    exact jn_12 v3 nm3 _ _ _ hv hW_12 (show (v3 4).toInt ≠ 0 ∨ (v 4).toInt = 0 from by omega) hP hD hS (lv_sub hl [0, 1, 2] rfl)
                  · have q_35 : v_31.toInt = (1 : Int32).toInt := (ow_eq _ _).mp c_33
                    refine lv_aload_n hx hb dX12_readSweet_79 rfl (lv_at hl 2 rfl) ?_
                    refine lv_iconst (v := 3) hx hb dX12_readSweet_80 (by decide) ?_
                    refine lv_aload_n hx hb dX12_readSweet_81 rfl (lv_at hl 2 rfl) ?_
                    refine mg_6 hx hb ht hown hK hP dX12_readSweet_82 ?_
                    have q_36 : 0 ≤ (v3 6).toInt ∧ (v3 6).toInt ≤ 1700 := hv 6
                    have hFc := fr_free hD hS hA
                    refine va_callv (va_runV (As := [.int 3, .int (v3 6)]) (rest := []) ⟨hx, hb, hml, hown, ht⟩ (m_fails l G cy _ mo h T v3 nm3 f3 g3 (3) (v3 6)  hv hf hR hL (by omega)) (cwV 2 ht (gv k_211 k_212 k_213 k_61 k_210) rfl rfl rfl (by decide +kernel) ⟨Nat.le_of_ble_eq_true rfl, Nat.le_of_ble_eq_true rfl⟩) ⟨En.blind, va_recv hK hP (ci := 12) (q0 := 0) rfl rfl, fun U hU hW => ⟨rfl, En.of hU hW hP hK hD hN⟩⟩ rfl rfl hl.1 rfl (lv_room (Nat.le_of_ble_eq_true rfl)) dX12_readSweet_85 ⟨Nat.le_of_ble_eq_true rfl, Nat.le_of_ble_eq_true rfl⟩) hS (fun q _ h => hFc q h) hFc (fun u_37 t9 H locs ht9 hvm hw hB hz1 hk1 hS => ?_)
                    obtain ⟨v37, nm37⟩ := u_37
                    obtain ⟨hP1, hD1⟩ := hB
                    rw [ht9] at hP1
                    obtain ⟨hv, xu_37V, wu_37⟩ := hw
                    dsimp only at hv xu_37V wu_37
                    have hP : va_P G vwCl (WMs cy mo h v37 nm37 f3 g3) H := hP1
                    have hD : va_D A (WMs cy mo h v37 nm37 f3 g3) := hD1.weaken (fun _ _ _ h => hFc _ h)
                    replace hR : RI v37 f3 := RI.fv hR xu_37V (by decide)
                    replace hL : WL v37 f3 := WL.fv hL xu_37V (by decide) (by decide)
                    replace hV_0 := FV.tr hV_0 xu_37V (by decide)
                    replace hW_3 := FV.tr hW_3 xu_37V (by decide)
                    replace hW_12 := FV.tr hW_12 xu_37V (by decide)
                    clear hFc hk1 hz1 hP1 hD1
                    replace wu_37 : (1 ≤ (v37 4).toInt) := wu_37
                    refine W.widen (k := 0) (n := 0) (Nat.le_of_ble_eq_true rfl) (Nat.le_of_ble_eq_true rfl) ?_
                    exact jn_12 v37 nm37 _ _ _ hv hW_12 (show (v37 4).toInt ≠ 0 ∨ (v 4).toInt = 0 from by omega) hP hD hS (lv_sub hl [0, 1, 2] rfl)
          · have q_38 : x2_3.toInt = (12 : Int32).toInt := (ow_eq _ _).mp c_18
            exfalso
            omega
        · have q_39 : ¬ x2_3.toInt = (0 : Int32).toInt := by have := (not_congr (ow_eq _ _)).mp c_10; omega
          refine lv_aload_n hx hb dX12_readSweet_25 rfl (lv_at hl 2 rfl) ?_
          refine mg_8 hx hb ht hown hK hP dX12_readSweet_26 ?_
          refine lv_iconst (v := 4) hx hb dX12_readSweet_29 (by decide) ?_
          refine lv_icmp_ne (tgt := 108) hx hb dX12_readSweet_30 (by decide) (fun c_40 => ?_) (fun c_40 => ?_)
          · have q_41 : ¬ (v3 8).toInt = (4 : Int32).toInt := by have := (not_congr (ow_eq _ _)).mp c_40; omega
            refine lv_aload_n hx hb dX12_readSweet_108 rfl (lv_at hl 2 rfl) ?_
            refine mg_14 hx hb ht hown hK hP dX12_readSweet_109 ?_
            refine lv_aload_n hx hb dX12_readSweet_112 rfl (lv_at hl 2 rfl) ?_
            refine mg_30 hx hb ht hown hK hP dX12_readSweet_113 ?_
            refine ow_top (v 30) (hV_3 30 (by decide)) ?_
            have q_42 : 0 ≤ (v 30).toInt ∧ (v 30).toInt ≤ 1 := by have h9 : v3 30 = (v 30) := (hV_3 30 (by decide)); rw [← h9]; exact hv 30
            refine lv_iload_n hx hb dX12_readSweet_116 rfl (lv_at hl 1 rfl) ?_
            have q_43 : vp_in (v 30) 2 := vp_in_iff.mpr ⟨by omega, by omega⟩
            refine ms_14 hx hb hK hP hD hS q_43 dX12_readSweet_117 (fun H locs hP hD hS => ?_)
            replace hf := MIf.up 14 (i := (Int32.toNatClampNeg (v 30))) hf (ow_any x1_3)
            replace hF_0 := FF.up hF_0 14 (upd (f3 14) (Int32.toNatClampNeg (v 30)) x1_3) (by decide)
            replace hL : WL v3 (va_up f3 14 (upd (f3 14) (Int32.toNatClampNeg (v 30)) x1_3)) := WL.upf 14 hL (by decide)
            replace hR : RI v3 (va_up f3 14 (upd (f3 14) (Int32.toNatClampNeg (v 30)) x1_3)) := RI.up 14 hR (by decide)
            refine W.widen (k := 0) (n := 0) (Nat.le_of_ble_eq_true rfl) (Nat.le_of_ble_eq_true rfl) ?_
            exact W.vret hx hb hr (fun t ht9 hW => ⟨⟨(v3, nm3, (va_up f3 14 (upd (f3 14) (Int32.toNatClampNeg (v 30)) x1_3)), g3), rfl, ⟨hv, hf, hR, hL, hV_0, hF_0, (show (v3 7).toInt ≤ (v 3).toInt ∧ ((v3 4).toInt ≠ 0 ∨ (v 4).toInt = 0) from by first | omega | (subst_vars; first | rfl | omega)), (show 0 ≤ mz (v 3).toInt (v3 7).toInt (v3 8).toInt ∧ mz (v 3).toInt (v3 7).toInt (v3 8).toInt ≤ mz (v 3).toInt (v 7).toInt (v 8).toInt from by omega)⟩, ⟨by rw [ht9]; exact hP, hD⟩⟩, hS.F ht9⟩) hS.2.2 dX12_readSweet_118
          · have q_44 : (v3 8).toInt = (4 : Int32).toInt := (ow_eq _ _).mp c_40
            refine W.widen (k := 0) (n := 0) (Nat.le_of_ble_eq_true rfl) (Nat.le_of_ble_eq_true rfl) ?_
            have jn_45 : ∀ (v45 : Nat → Int32) (nm45 : Int64) (H : Heap) (locs : List Loc) (ls : Array Slot), MIv T v45 → FV [4, 5] v3 v45 → ((v45 4).toInt ≠ 0 ∨ (v 4).toInt = 0) → va_P G vwCl (WMs cy mo h v45 nm45 f3 g3) H → va_D A (WMs cy mo h v45 nm45 f3 g3) → va_S A s.heap H locs → lv_has ls 4 [(2, .int x2_3), (1, .int x1_3), (0, .ref mo)] → W p l e (headSpec (.code yX12_readSweet cX12_readSweet 4 none :: TBg) ({ frames := 4, cells := 0, slots := 0, locals := 256 })).room s m ([.ref mo] : List Value).toArray below meth c H locs 0 0 (MQ below (va_Qv (fun (u : (Nat → Int32) × Int64 × (Nat → Nat → Int32) × (Nat → Nat → Int64)) => MIv T u.1 ∧ MIf u.2.2.1 ∧ RI u.1 u.2.2.1 ∧ WL u.1 u.2.2.1 ∧ FV [4, 5, 6, 7, 8, 9] v u.1 ∧ FF [14, 21] f u.2.2.1 ∧ (((u.1 7).toInt ≤ (v 3).toInt ∧ ((u.1 4).toInt ≠ 0 ∨ (v 4).toInt = 0))) ∧ (0 ≤ mz (v 3).toInt (u.1 7).toInt (u.1 8).toInt ∧ mz (v 3).toInt (u.1 7).toInt (u.1 8).toInt ≤ mz (v 3).toInt (v 7).toInt (v 8).toInt)) (fun u t => Ex G A (WMs cy mo h u.1 u.2.1 u.2.2.1 u.2.2.2) t) A) ([.ref mo] : List Value).toArray s 0 0 A) (F0 m 88 ls []) := by
              intro v45 nm45 H locs ls hv hV_45 qf45_0 hP hD hS hl
              replace hR : RI v45 f3 := RI.fv hR hV_45 (by decide)
              replace hL : WL v45 f3 := WL.fv hL hV_45 (by decide) (by decide)
              replace hV_0 := FV.tr hV_0 hV_45 (by decide)
              replace hW_3 := FV.tr hW_3 hV_45 (by decide)
              refine lv_aload_n hx hb dX12_readSweet_88 rfl (lv_at hl 2 rfl) ?_
              refine lv_iconst (v := 0) hx hb dX12_readSweet_89 (by decide) ?_
              refine lv_bipush (v := 11) hx hb dX12_readSweet_90 (by decide) ?_
              have hFc := fr_free hD hS hA
              refine va_calli (va_runV (As := [.int 0, .int 11]) (rest := []) ⟨hx, hb, hml, hown, ht⟩ (m_numeral l G cy _ mo h T v45 nm45 f3 g3 (0) (11)  hv hf hR hL (show (0 : Int32).toInt ≤ (11 : Int32).toInt from by omega) (show (v45 7).toInt ≤ (v45 3).toInt from by rw [(show v45 7 = (v3 7) from (hV_45 7 (by decide))), (show v45 3 = (v 3) from ((hV_45 3 (by decide)).trans (hV_3 3 (by decide))))]; omega)) (cwV 2 ht (gv k_288 k_289 k_290 k_61 k_287) rfl rfl rfl (by decide +kernel) ⟨Nat.le_of_ble_eq_true rfl, Nat.le_of_ble_eq_true rfl⟩) ⟨En.blind, va_recv hK hP (ci := 12) (q0 := 0) rfl rfl, fun U hU hW => ⟨rfl, En.of hU hW hP hK hD hN⟩⟩ rfl rfl hl.1 rfl (lv_room (Nat.le_of_ble_eq_true rfl)) dX12_readSweet_92 ⟨Nat.le_of_ble_eq_true rfl, Nat.le_of_ble_eq_true rfl⟩) hS (fun q _ h => hFc q h) hFc (fun r_u_46 u_46 t9 H locs ht9 hvm hw hB hz1 hk1 hS => ?_)
              obtain ⟨v46, nm46⟩ := u_46
              obtain ⟨hP1, hD1⟩ := hB
              rw [ht9] at hP1
              obtain ⟨hv, xu_46V, wu_46, xu_46_M⟩ := hw
              dsimp only at hv xu_46V wu_46 xu_46_M
              have hP : va_P G vwCl (WMs cy mo h v46 nm46 f3 g3) H := hP1
              have hD : va_D A (WMs cy mo h v46 nm46 f3 g3) := hD1.weaken (fun _ _ _ h => hFc _ h)
              replace hR : RI v46 f3 := RI.fv hR xu_46V (by decide)
              replace hL : WL v46 f3 := WL.fv hL xu_46V (by decide) (by decide)
              replace hV_0 := FV.tr hV_0 xu_46V (by decide)
              replace hW_3 := FV.tr hW_3 xu_46V (by decide)
              clear hFc hk1 hz1 hP1 hD1
              replace wu_46 : ((0 : Int32).toInt ≤ r_u_46.toInt ∧ r_u_46.toInt ≤ (11 : Int32).toInt ∧ (v46 7).toInt ≤ (v 3).toInt ∧ ((v46 4).toInt ≠ 0 ∨ ((v45 4).toInt = 0 ∧ (v3 8).toInt = 4))) := by
                have h9 : ((0 : Int32).toInt ≤ r_u_46.toInt ∧ r_u_46.toInt ≤ (11 : Int32).toInt ∧ (v46 7).toInt ≤ (v45 3).toInt ∧ ((v46 4).toInt ≠ 0 ∨ ((v45 4).toInt = 0 ∧ (v45 8).toInt = 4))) := wu_46
                rw [(show v45 3 = (v 3) from ((hV_45 3 (by decide)).trans (hV_3 3 (by decide)))), (show v45 8 = (v3 8) from (hV_45 8 (by decide)))] at h9
                exact h9
              replace xu_46_M : 0 ≤ mz (v 3).toInt (v46 7).toInt (v46 8).toInt ∧ mz (v 3).toInt (v46 7).toInt (v46 8).toInt ≤ mz (v 3).toInt (v3 7).toInt (v3 8).toInt ∧ ((v46 4).toInt ≠ 0 ∨ mz (v 3).toInt (v46 7).toInt (v46 8).toInt < mz (v 3).toInt (v3 7).toInt (v3 8).toInt) := by
                have h9 : 0 ≤ mz (v45 3).toInt (v46 7).toInt (v46 8).toInt ∧ mz (v45 3).toInt (v46 7).toInt (v46 8).toInt ≤ mz (v45 3).toInt (v45 7).toInt (v45 8).toInt ∧ ((v46 4).toInt ≠ 0 ∨ mz (v45 3).toInt (v46 7).toInt (v46 8).toInt < mz (v45 3).toInt (v45 7).toInt (v45 8).toInt) := xu_46_M
                rw [(show v45 3 = (v 3) from ((hV_45 3 (by decide)).trans (hV_3 3 (by decide)))), (show v45 7 = (v3 7) from (hV_45 7 (by decide))), (show v45 8 = (v3 8) from (hV_45 8 (by decide)))] at h9
                exact h9
              refine lv_istore_n (lv' := [(3, .int r_u_46), (2, .int x2_3), (1, .int x1_3), (0, .ref mo)]) hx hb dX12_readSweet_95 rfl hl (by decide) rfl (fun ls hl => ?_)
              refine lv_iload_n hx hb dX12_readSweet_96 rfl (lv_at hl 2 rfl) ?_
              refine lv_iconst (v := 1) hx hb dX12_readSweet_97 (by decide) ?_
              refine lv_iload_n hx hb dX12_readSweet_98 rfl (lv_at hl 0 rfl) ?_
              refine lv_ishl hx hb dX12_readSweet_99 ?_
              refine lv_topi (fun v_47 ev_47 => ?_)
              refine lv_ior hx hb dX12_readSweet_100 ?_
              refine lv_topi (fun v_48 ev_48 => ?_)
              refine lv_istore_n (lv' := [(1, .int v_48), (3, .int r_u_46), (2, .int x2_3), (0, .ref mo)]) hx hb dX12_readSweet_101 rfl hl (by decide) rfl (fun ls hl => ?_)
              obtain ⟨v_49, ev_49⟩ : ∃ y : Int32, y = x2_3 + 1 := ⟨_, rfl⟩
              refine lv_iinc (v := v_49) (lv' := [(2, .int v_49), (1, .int v_48), (3, .int r_u_46), (0, .ref mo)]) hx hb dX12_readSweet_102 hl (k := 2) rfl (by rw [ev_49]; rfl) (by decide) rfl (fun ls hl => ?_)
              refine lv_goto (tgt := 14) hx hb dX12_readSweet_105 (by decide) ?_
              refine W.widen (k := 0) (n := 0) (Nat.le_of_ble_eq_true rfl) (Nat.le_of_ble_eq_true rfl) ?_
              exact ih_3 v_49 v_48 v46 nm46 f3 g3 _ _ _ hv hf hR hL hW_3 hY_3 (show (v46 7).toInt ≤ (v 3).toInt ∧ ((v46 4).toInt ≠ 0 ∨ (v 4).toInt = 0) ∧ 0 ≤ mz (v 3).toInt (v46 7).toInt (v46 8).toInt ∧ mz (v 3).toInt (v46 7).toInt (v46 8).toInt ≤ mz (v 3).toInt (v 7).toInt (v 8).toInt from by omega) (show tkm (mz (v 3).toInt (v46 7).toInt (v46 8).toInt) (v46 4).toInt < N_3 from by have h9 : tkm (mz (v 3).toInt (v46 7).toInt (v46 8).toInt) (v46 4).toInt < tkm (mz (v 3).toInt (v3 7).toInt (v3 8).toInt) (v3 4).toInt := tkm_lt (by omega) (by omega); omega) hP hD hS (lv_sub hl [0, 1, 3] rfl)
            replace hW_45 : FV [4, 5] v3 v3 := FV.rf
            refine lv_iload_n hx hb dX12_readSweet_33 rfl (lv_at hl 0 rfl) ?_
            refine lv_bipush (v := 12) hx hb dX12_readSweet_34 (by decide) ?_
            refine lv_icmp_ne (tgt := 43) hx hb dX12_readSweet_36 (by decide) (fun c_50 => ?_) (fun c_50 => ?_)
            · have q_51 : ¬ x2_3.toInt = (12 : Int32).toInt := by have := (not_congr (ow_eq _ _)).mp c_50; omega
              refine lv_aload_n hx hb dX12_readSweet_43 rfl (lv_at hl 2 rfl) ?_
              have hFc := fr_new hS hA
              refine va_calli (va_runV (As := []) (rest := []) ⟨hx, hb, hml, hown, ht⟩ (m_isGood l G cy _ mo h T v3 nm3 f3 g3   hv hf hR hL) (cwV 0 ht (gv k_224 k_225 k_226 k_61 k_223) rfl rfl rfl (by decide +kernel) ⟨Nat.le_of_ble_eq_true rfl, Nat.le_of_ble_eq_true rfl⟩) ⟨En.blind, va_recv hK hP (ci := 12) (q0 := 0) rfl rfl, fun U hU hW => ⟨rfl, En.of hU hW hP hK hD hN⟩⟩ rfl rfl hl.1 rfl (lv_room (Nat.le_of_ble_eq_true rfl)) dX12_readSweet_44 ⟨Nat.le_of_ble_eq_true rfl, Nat.le_of_ble_eq_true rfl⟩) hS (fun q _ h => hFc q h) hFc (fun r_u_52 u_52 t9 H locs ht9 hvm hw hB hz1 hk1 hS => ?_)
              have hP := fr_keep hP hk1
              have wu_52 := hw
              clear hFc hk1 hz1 hB hw
              replace wu_52 : (r_u_52.toInt = 0 ∨ r_u_52.toInt = 1) ∧ ((r_u_52.toInt = 1 ∧ (v3 4).toInt = 0) ∨ (r_u_52.toInt = 0 ∧ (v3 4).toInt ≠ 0)) := wu_52
              refine lv_if_eq (tgt := 88) hx hb dX12_readSweet_47 (by decide) (fun c_53 => ?_) (fun c_53 => ?_)
              · have q_54 : r_u_52.toInt = (0 : Int32).toInt := (ow_eq _ _).mp c_53
                refine W.widen (k := 0) (n := 0) (Nat.le_of_ble_eq_true rfl) (Nat.le_of_ble_eq_true rfl) ?_
                exact jn_45 v3 nm3 _ _ _ hv hW_45 (show (v3 4).toInt ≠ 0 ∨ (v 4).toInt = 0 from by omega) hP hD hS (lv_sub hl [0, 1, 2] rfl)
              · have q_55 : ¬ r_u_52.toInt = (0 : Int32).toInt := by have := (not_congr (ow_eq _ _)).mp c_53; omega
                refine lv_aload_n hx hb dX12_readSweet_50 rfl (lv_at hl 2 rfl) ?_
                refine mg_8 hx hb ht hown hK hP dX12_readSweet_51 ?_
                refine lv_iconst (v := 4) hx hb dX12_readSweet_54 (by decide) ?_
                refine lv_icmp_ne (tgt := 88) hx hb dX12_readSweet_55 (by decide) (fun c_56 => ?_) (fun c_56 => ?_)
                · have q_57 : ¬ (v3 8).toInt = (4 : Int32).toInt := by have := (not_congr (ow_eq _ _)).mp c_56; omega
                  exfalso
                  omega
                · have q_58 : (v3 8).toInt = (4 : Int32).toInt := (ow_eq _ _).mp c_56
                  refine lv_aload_n hx hb dX12_readSweet_58 rfl (lv_at hl 2 rfl) ?_
                  refine mg_9 hx hb ht hown hK hP dX12_readSweet_59 ?_
                  refine lv_bipush (v := 12) hx hb dX12_readSweet_62 (by decide) ?_
                  refine lv_icmp_ge (tgt := 88) hx hb dX12_readSweet_64 (by decide) (fun c_59 => ?_) (fun c_59 => ?_)
                  · have q_60 : (12 : Int32).toInt ≤ (v3 9).toInt := (ow_le _ _).mp c_59
                    refine W.widen (k := 0) (n := 0) (Nat.le_of_ble_eq_true rfl) (Nat.le_of_ble_eq_true rfl) ?_
                    exact jn_45 v3 nm3 _ _ _ hv hW_45 (show (v3 4).toInt ≠ 0 ∨ (v 4).toInt = 0 from by omega) hP hD hS (lv_sub hl [0, 1, 2] rfl)
                  · have q_61 : (v3 9).toInt < (12 : Int32).toInt := by have := (not_congr (ow_le _ _)).mp c_59; omega
                    refine lv_iload_n hx hb dX12_readSweet_67 rfl (lv_at hl 1 rfl) ?_
                    refine lv_aload_n hx hb dX12_readSweet_68 rfl (lv_at hl 2 rfl) ?_
                    refine mg_9 hx hb ht hown hK hP dX12_readSweet_69 ?_
                    refine lv_ishr hx hb dX12_readSweet_72 ?_
                    refine lv_topi (fun v_62 ev_62 => ?_)
                    refine lv_iconst (v := 1) hx hb dX12_readSweet_73 (by decide) ?_
                    refine lv_iand hx hb dX12_readSweet_74 ?_
                    refine lv_topi (fun v_63 ev_63 => ?_)
                    have q_64 : 0 ≤ v_63.toInt ∧ v_63.toInt ≤ 1 := by rw [ev_63]; exact ow_and1 _
                    refine lv_iconst (v := 1) hx hb dX12_readSweet_75 (by decide) ?_
                    refine lv_icmp_ne (tgt := 88) hx hb dX12_readSweet_76 (by decide) (fun c_65 => ?_) (fun c_65 => ?_)
                    · have q_66 : ¬ v_63.toInt = (1 : Int32).toInt := by have := (not_congr (ow_eq _ _)).mp c_65; omega
                      refine W.widen (k := 0) (n := 0) (Nat.le_of_ble_eq_true rfl) (Nat.le_of_ble_eq_true rfl) ?_
                      exact jn_45 v3 nm3 _ _ _ hv hW_45 (show (v3 4).toInt ≠ 0 ∨ (v 4).toInt = 0 from by omega) hP hD hS (lv_sub hl [0, 1, 2] rfl)
                    · have q_67 : v_63.toInt = (1 : Int32).toInt := (ow_eq _ _).mp c_65
                      refine lv_aload_n hx hb dX12_readSweet_79 rfl (lv_at hl 2 rfl) ?_
                      refine lv_iconst (v := 3) hx hb dX12_readSweet_80 (by decide) ?_
                      refine lv_aload_n hx hb dX12_readSweet_81 rfl (lv_at hl 2 rfl) ?_
                      refine mg_6 hx hb ht hown hK hP dX12_readSweet_82 ?_
                      have q_68 : 0 ≤ (v3 6).toInt ∧ (v3 6).toInt ≤ 1700 := hv 6
                      have hFc := fr_free hD hS hA
                      refine va_callv (va_runV (As := [.int 3, .int (v3 6)]) (rest := []) ⟨hx, hb, hml, hown, ht⟩ (m_fails l G cy _ mo h T v3 nm3 f3 g3 (3) (v3 6)  hv hf hR hL (by omega)) (cwV 2 ht (gv k_211 k_212 k_213 k_61 k_210) rfl rfl rfl (by decide +kernel) ⟨Nat.le_of_ble_eq_true rfl, Nat.le_of_ble_eq_true rfl⟩) ⟨En.blind, va_recv hK hP (ci := 12) (q0 := 0) rfl rfl, fun U hU hW => ⟨rfl, En.of hU hW hP hK hD hN⟩⟩ rfl rfl hl.1 rfl (lv_room (Nat.le_of_ble_eq_true rfl)) dX12_readSweet_85 ⟨Nat.le_of_ble_eq_true rfl, Nat.le_of_ble_eq_true rfl⟩) hS (fun q _ h => hFc q h) hFc (fun u_69 t9 H locs ht9 hvm hw hB hz1 hk1 hS => ?_)
                      obtain ⟨v69, nm69⟩ := u_69
                      obtain ⟨hP1, hD1⟩ := hB
                      rw [ht9] at hP1
                      obtain ⟨hv, xu_69V, wu_69⟩ := hw
                      dsimp only at hv xu_69V wu_69
                      have hP : va_P G vwCl (WMs cy mo h v69 nm69 f3 g3) H := hP1
                      have hD : va_D A (WMs cy mo h v69 nm69 f3 g3) := hD1.weaken (fun _ _ _ h => hFc _ h)
                      replace hR : RI v69 f3 := RI.fv hR xu_69V (by decide)
                      replace hL : WL v69 f3 := WL.fv hL xu_69V (by decide) (by decide)
                      replace hV_0 := FV.tr hV_0 xu_69V (by decide)
                      replace hW_3 := FV.tr hW_3 xu_69V (by decide)
                      replace hW_45 := FV.tr hW_45 xu_69V (by decide)
                      clear hFc hk1 hz1 hP1 hD1
                      replace wu_69 : (1 ≤ (v69 4).toInt) := wu_69
                      refine W.widen (k := 0) (n := 0) (Nat.le_of_ble_eq_true rfl) (Nat.le_of_ble_eq_true rfl) ?_
                      exact jn_45 v69 nm69 _ _ _ hv hW_45 (show (v69 4).toInt ≠ 0 ∨ (v 4).toInt = 0 from by omega) hP hD hS (lv_sub hl [0, 1, 2] rfl)
            · have q_70 : x2_3.toInt = (12 : Int32).toInt := (ow_eq _ _).mp c_50
              refine lv_aload_n hx hb dX12_readSweet_39 rfl (lv_at hl 2 rfl) ?_
              have hFc := fr_free hD hS hA
              refine va_callv (va_runV (As := []) (rest := []) ⟨hx, hb, hml, hown, ht⟩ (m_misplaced l G cy _ mo h T v3 nm3 f3 g3   hv hf hR hL) (cwV 0 ht (gv k_228 k_229 k_230 k_61 k_227) rfl rfl rfl (by decide +kernel) ⟨Nat.le_of_ble_eq_true rfl, Nat.le_of_ble_eq_true rfl⟩) ⟨En.blind, va_recv hK hP (ci := 12) (q0 := 0) rfl rfl, fun U hU hW => ⟨rfl, En.of hU hW hP hK hD hN⟩⟩ rfl rfl hl.1 rfl (lv_room (Nat.le_of_ble_eq_true rfl)) dX12_readSweet_40 ⟨Nat.le_of_ble_eq_true rfl, Nat.le_of_ble_eq_true rfl⟩) hS (fun q _ h => hFc q h) hFc (fun u_71 t9 H locs ht9 hvm hw hB hz1 hk1 hS => ?_)
              obtain ⟨v71, nm71⟩ := u_71
              obtain ⟨hP1, hD1⟩ := hB
              rw [ht9] at hP1
              obtain ⟨hv, xu_71V, wu_71⟩ := hw
              dsimp only at hv xu_71V wu_71
              have hP : va_P G vwCl (WMs cy mo h v71 nm71 f3 g3) H := hP1
              have hD : va_D A (WMs cy mo h v71 nm71 f3 g3) := hD1.weaken (fun _ _ _ h => hFc _ h)
              replace hR : RI v71 f3 := RI.fv hR xu_71V (by decide)
              replace hL : WL v71 f3 := WL.fv hL xu_71V (by decide) (by decide)
              replace hV_0 := FV.tr hV_0 xu_71V (by decide)
              replace hW_3 := FV.tr hW_3 xu_71V (by decide)
              replace hW_45 := FV.tr hW_45 xu_71V (by decide)
              clear hFc hk1 hz1 hP1 hD1
              replace wu_71 : (1 ≤ (v71 4).toInt) := wu_71
              refine lv_aload_n hx hb dX12_readSweet_43 rfl (lv_at hl 2 rfl) ?_
              have hFc := fr_new hS hA
              refine va_calli (va_runV (As := []) (rest := []) ⟨hx, hb, hml, hown, ht⟩ (m_isGood l G cy _ mo h T v71 nm71 f3 g3   hv hf hR hL) (cwV 0 ht (gv k_224 k_225 k_226 k_61 k_223) rfl rfl rfl (by decide +kernel) ⟨Nat.le_of_ble_eq_true rfl, Nat.le_of_ble_eq_true rfl⟩) ⟨En.blind, va_recv hK hP (ci := 12) (q0 := 0) rfl rfl, fun U hU hW => ⟨rfl, En.of hU hW hP hK hD hN⟩⟩ rfl rfl hl.1 rfl (lv_room (Nat.le_of_ble_eq_true rfl)) dX12_readSweet_44 ⟨Nat.le_of_ble_eq_true rfl, Nat.le_of_ble_eq_true rfl⟩) hS (fun q _ h => hFc q h) hFc (fun r_u_72 u_72 t9 H locs ht9 hvm hw hB hz1 hk1 hS => ?_)
              have hP := fr_keep hP hk1
              have wu_72 := hw
              clear hFc hk1 hz1 hB hw
              replace wu_72 : (r_u_72.toInt = 0 ∨ r_u_72.toInt = 1) ∧ ((r_u_72.toInt = 1 ∧ (v71 4).toInt = 0) ∨ (r_u_72.toInt = 0 ∧ (v71 4).toInt ≠ 0)) := wu_72
              refine lv_if_eq (tgt := 88) hx hb dX12_readSweet_47 (by decide) (fun c_73 => ?_) (fun c_73 => ?_)
              · have q_74 : r_u_72.toInt = (0 : Int32).toInt := (ow_eq _ _).mp c_73
                refine W.widen (k := 0) (n := 0) (Nat.le_of_ble_eq_true rfl) (Nat.le_of_ble_eq_true rfl) ?_
                exact jn_45 v71 nm71 _ _ _ hv hW_45 (show (v71 4).toInt ≠ 0 ∨ (v 4).toInt = 0 from by omega) hP hD hS (lv_sub hl [0, 1, 2] rfl)
              · have q_75 : ¬ r_u_72.toInt = (0 : Int32).toInt := by have := (not_congr (ow_eq _ _)).mp c_73; omega
                refine lv_aload_n hx hb dX12_readSweet_50 rfl (lv_at hl 2 rfl) ?_
                refine mg_8 hx hb ht hown hK hP dX12_readSweet_51 ?_
                refine ow_top (v3 8) (xu_71V 8 (by decide)) ?_
                refine lv_iconst (v := 4) hx hb dX12_readSweet_54 (by decide) ?_
                refine lv_icmp_ne (tgt := 88) hx hb dX12_readSweet_55 (by decide) (fun c_76 => ?_) (fun c_76 => ?_)
                · have q_77 : ¬ (v3 8).toInt = (4 : Int32).toInt := by have := (not_congr (ow_eq _ _)).mp c_76; omega
                  exfalso
                  omega
                · have q_78 : (v3 8).toInt = (4 : Int32).toInt := (ow_eq _ _).mp c_76
                  refine lv_aload_n hx hb dX12_readSweet_58 rfl (lv_at hl 2 rfl) ?_
                  refine mg_9 hx hb ht hown hK hP dX12_readSweet_59 ?_
                  refine ow_top (v3 9) (xu_71V 9 (by decide)) ?_
                  refine lv_bipush (v := 12) hx hb dX12_readSweet_62 (by decide) ?_
                  refine lv_icmp_ge (tgt := 88) hx hb dX12_readSweet_64 (by decide) (fun c_79 => ?_) (fun c_79 => ?_)
                  · have q_80 : (12 : Int32).toInt ≤ (v3 9).toInt := (ow_le _ _).mp c_79
                    refine W.widen (k := 0) (n := 0) (Nat.le_of_ble_eq_true rfl) (Nat.le_of_ble_eq_true rfl) ?_
                    exact jn_45 v71 nm71 _ _ _ hv hW_45 (show (v71 4).toInt ≠ 0 ∨ (v 4).toInt = 0 from by omega) hP hD hS (lv_sub hl [0, 1, 2] rfl)
                  · have q_81 : (v3 9).toInt < (12 : Int32).toInt := by have := (not_congr (ow_le _ _)).mp c_79; omega
                    refine lv_iload_n hx hb dX12_readSweet_67 rfl (lv_at hl 1 rfl) ?_
                    refine lv_aload_n hx hb dX12_readSweet_68 rfl (lv_at hl 2 rfl) ?_
                    refine mg_9 hx hb ht hown hK hP dX12_readSweet_69 ?_
                    refine ow_top (v3 9) (xu_71V 9 (by decide)) ?_
                    refine lv_ishr hx hb dX12_readSweet_72 ?_
                    refine lv_topi (fun v_82 ev_82 => ?_)
                    refine lv_iconst (v := 1) hx hb dX12_readSweet_73 (by decide) ?_
                    refine lv_iand hx hb dX12_readSweet_74 ?_
                    refine lv_topi (fun v_83 ev_83 => ?_)
                    have q_84 : 0 ≤ v_83.toInt ∧ v_83.toInt ≤ 1 := by rw [ev_83]; exact ow_and1 _
                    refine lv_iconst (v := 1) hx hb dX12_readSweet_75 (by decide) ?_
                    refine lv_icmp_ne (tgt := 88) hx hb dX12_readSweet_76 (by decide) (fun c_85 => ?_) (fun c_85 => ?_)
                    · have q_86 : ¬ v_83.toInt = (1 : Int32).toInt := by have := (not_congr (ow_eq _ _)).mp c_85; omega
                      refine W.widen (k := 0) (n := 0) (Nat.le_of_ble_eq_true rfl) (Nat.le_of_ble_eq_true rfl) ?_
                      exact jn_45 v71 nm71 _ _ _ hv hW_45 (show (v71 4).toInt ≠ 0 ∨ (v 4).toInt = 0 from by omega) hP hD hS (lv_sub hl [0, 1, 2] rfl)
                    · have q_87 : v_83.toInt = (1 : Int32).toInt := (ow_eq _ _).mp c_85
                      refine lv_aload_n hx hb dX12_readSweet_79 rfl (lv_at hl 2 rfl) ?_
                      refine lv_iconst (v := 3) hx hb dX12_readSweet_80 (by decide) ?_
                      refine lv_aload_n hx hb dX12_readSweet_81 rfl (lv_at hl 2 rfl) ?_
                      refine mg_6 hx hb ht hown hK hP dX12_readSweet_82 ?_
                      refine ow_top (v3 6) (xu_71V 6 (by decide)) ?_
                      have q_88 : 0 ≤ (v3 6).toInt ∧ (v3 6).toInt ≤ 1700 := by have h9 : v71 6 = (v3 6) := (xu_71V 6 (by decide)); rw [← h9]; exact hv 6
                      have hFc := fr_free hD hS hA
                      refine va_callv (va_runV (As := [.int 3, .int (v3 6)]) (rest := []) ⟨hx, hb, hml, hown, ht⟩ (m_fails l G cy _ mo h T v71 nm71 f3 g3 (3) (v3 6)  hv hf hR hL (by omega)) (cwV 2 ht (gv k_211 k_212 k_213 k_61 k_210) rfl rfl rfl (by decide +kernel) ⟨Nat.le_of_ble_eq_true rfl, Nat.le_of_ble_eq_true rfl⟩) ⟨En.blind, va_recv hK hP (ci := 12) (q0 := 0) rfl rfl, fun U hU hW => ⟨rfl, En.of hU hW hP hK hD hN⟩⟩ rfl rfl hl.1 rfl (lv_room (Nat.le_of_ble_eq_true rfl)) dX12_readSweet_85 ⟨Nat.le_of_ble_eq_true rfl, Nat.le_of_ble_eq_true rfl⟩) hS (fun q _ h => hFc q h) hFc (fun u_89 t9 H locs ht9 hvm hw hB hz1 hk1 hS => ?_)
                      obtain ⟨v89, nm89⟩ := u_89
                      obtain ⟨hP1, hD1⟩ := hB
                      rw [ht9] at hP1
                      obtain ⟨hv, xu_89V, wu_89⟩ := hw
                      dsimp only at hv xu_89V wu_89
                      have hP : va_P G vwCl (WMs cy mo h v89 nm89 f3 g3) H := hP1
                      have hD : va_D A (WMs cy mo h v89 nm89 f3 g3) := hD1.weaken (fun _ _ _ h => hFc _ h)
                      replace hR : RI v89 f3 := RI.fv hR xu_89V (by decide)
                      replace hL : WL v89 f3 := WL.fv hL xu_89V (by decide) (by decide)
                      replace hV_0 := FV.tr hV_0 xu_89V (by decide)
                      replace hW_3 := FV.tr hW_3 xu_89V (by decide)
                      replace hW_45 := FV.tr hW_45 xu_89V (by decide)
                      clear hFc hk1 hz1 hP1 hD1
                      replace wu_89 : (1 ≤ (v89 4).toInt) := wu_89
                      refine W.widen (k := 0) (n := 0) (Nat.le_of_ble_eq_true rfl) (Nat.le_of_ble_eq_true rfl) ?_
                      exact jn_45 v89 nm89 _ _ _ hv hW_45 (show (v89 4).toInt ≠ 0 ∨ (v 4).toInt = 0 from by omega) hP hD hS (lv_sub hl [0, 1, 2] rfl)
  exact lp_3 _ (0) (0) v nm (va_up f 21 (upd (f 21) (Int32.toNatClampNeg (v 30)) (vp_nar .boolean 1))) g _ _ _ hv hf hR hL FV.rf FF.rf (show (v 7).toInt ≤ (v 3).toInt ∧ ((v 4).toInt ≠ 0 ∨ (v 4).toInt = 0) ∧ 0 ≤ mz (v 3).toInt (v 7).toInt (v 8).toInt ∧ mz (v 3).toInt (v 7).toInt (v 8).toInt ≤ mz (v 3).toInt (v 7).toInt (v 8).toInt from by omega) (Nat.lt_succ_self _) hP hD hS (lv_sub hl [0, 1, 2] rfl)
