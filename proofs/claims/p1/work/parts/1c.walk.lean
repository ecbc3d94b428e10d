theorem k_118 : (Cond.fieldLink RX9 53 "TuneLocks$Town" "lockCount" "I") ∈ TBg := tb_mem 260 (by decide +kernel) (by decide +kernel)
theorem k_119 : (Cond.fieldLink RX11 73 "TuneLocks" "tapeSize" "I") ∈ TBg := tb_mem 408 (by decide +kernel) (by decide +kernel)
theorem k_120 : (Cond.fieldLink RX8 24 "TuneLocks$Song" "count" "I") ∈ TBg := tb_mem 166 (by decide +kernel) (by decide +kernel)
theorem k_121 : (Cond.fieldLink RX7 28 "TuneLocks$Scene" "atNight" "Z") ∈ TBg := tb_mem 300 (by decide +kernel) (by decide +kernel)
theorem k_122 : (Cond.fieldLink RX7 32 "TuneLocks$Scene" "open" "I") ∈ TBg := tb_mem 302 (by decide +kernel) (by decide +kernel)
theorem k_123 : (Cond.code yJ7_fill_53178 cJ7_fill_53178 4 none) ∈ TBg := tb_mem 750 (by decide +kernel) (by decide +kernel)
theorem k_124 : (Cond.methodLink RX7 35 yJ7_fill_53178) ∈ TBg := tb_mem 748 (by decide +kernel) (by decide +kernel)
theorem k_125 : (Cond.static yJ7_fill_53178) ∈ TBg := tb_mem 749 (by decide +kernel) (by decide +kernel)
theorem k_126 : (Cond.initialized RJ7) ∈ TBg := tb_mem 102 (by decide +kernel) (by decide +kernel)
theorem k_127 : (Cond.fieldLink RX7 41 "TuneLocks$Scene" "kept" "Z") ∈ TBg := tb_mem 306 (by decide +kernel) (by decide +kernel)
theorem k_128 : (Cond.code yX8_becomeLike cX8_becomeLike 3 none) ∈ TBg := tb_mem 996 (by decide +kernel) (by decide +kernel)
theorem k_129 : (Cond.methodLink RX7 44 yX8_becomeLike) ∈ TBg := tb_mem 993 (by decide +kernel) (by decide +kernel)
theorem k_130 : (Cond.instanceMethod yX8_becomeLike) ∈ TBg := tb_mem 994 (by decide +kernel) (by decide +kernel)
theorem k_131 : (Cond.selects RX8 yX8_becomeLike yX8_becomeLike) ∈ TBg := tb_mem 995 (by decide +kernel) (by decide +kernel)
theorem k_132 : (Cond.methodLink RX7 48 arraycopyName) ∈ TBg := tb_mem 998 (by decide +kernel) (by decide +kernel)
theorem k_133 : (Cond.native arraycopyName) ∈ TBg := tb_mem 856 (by decide +kernel) (by decide +kernel)
theorem k_134 : (Cond.static arraycopyName) ∈ TBg := tb_mem 855 (by decide +kernel) (by decide +kernel)
theorem k_135 : (Cond.initialized "java/lang/System") ∈ TBg := tb_mem 104 (by decide +kernel) (by decide +kernel)
theorem k_136 : (Cond.fieldLink RX2 30 "TuneLocks$Hearing" "notes" "I") ∈ TBg := tb_mem 196 (by decide +kernel) (by decide +kernel)
theorem k_137 : (Cond.fieldLink RX10 28 "TuneLocks$Watches" "count" "I") ∈ TBg := tb_mem 333 (by decide +kernel) (by decide +kernel)
theorem k_138 : (Cond.fieldLink RX1 28 "TuneLocks$Deal" "bestSize" "I") ∈ TBg := tb_mem 356 (by decide +kernel) (by decide +kernel)
theorem k_139 : (Cond.fieldLink RX1 25 "TuneLocks$Deal" "best" "I") ∈ TBg := tb_mem 355 (by decide +kernel) (by decide +kernel)
theorem k_140 : (Cond.code yX1_pick cX1_pick 5 none) ∈ TBg := tb_mem 827 (by decide +kernel) (by decide +kernel)
theorem k_141 : (Cond.methodLink RX1 31 yX1_pick) ∈ TBg := tb_mem 825 (by decide +kernel) (by decide +kernel)
theorem k_142 : (Cond.static yX1_pick) ∈ TBg := tb_mem 826 (by decide +kernel) (by decide +kernel)
theorem k_143 : (Cond.fieldLink RX3 29 "TuneLocks$Laying" "fewest" "I") ∈ TBg := tb_mem 378 (by decide +kernel) (by decide +kernel)
theorem k_144 : (Cond.fieldLink RX3 33 "TuneLocks$Laying" "count" "I") ∈ TBg := tb_mem 374 (by decide +kernel) (by decide +kernel)
theorem k_145 : (Cond.methodLink RX3 74 arraycopyName) ∈ TBg := tb_mem 854 (by decide +kernel) (by decide +kernel)
theorem k_146 : (Cond.code yX3_layNext cX3_layNext 6 none) ∈ TBg := tb_mem 853 (by decide +kernel) (by decide +kernel)
theorem k_147 : (Cond.methodLink RX3 56 yX3_layNext) ∈ TBg := tb_mem 851 (by decide +kernel) (by decide +kernel)
theorem k_148 : (Cond.static yX3_layNext) ∈ TBg := tb_mem 852 (by decide +kernel) (by decide +kernel)
theorem k_149 : (Cond.constant RJ6 265 (1431655765)) ∈ TBg := tb_mem 835 (by decide +kernel) (by decide +kernel)
theorem k_150 : (Cond.constant RJ6 266 (858993459)) ∈ TBg := tb_mem 836 (by decide +kernel) (by decide +kernel)
theorem k_151 : (Cond.constant RJ6 267 (252645135)) ∈ TBg := tb_mem 837 (by decide +kernel) (by decide +kernel)
theorem k_152 : (Cond.methodLink RX6 3 objectInit) ∈ TBg := tb_mem 471 (by decide +kernel) (by decide +kernel)
theorem k_153 : (Cond.fieldLink RX6 9 "TuneLocks$Reader" "faultPlace" "I") ∈ TBg := tb_mem 486 (by decide +kernel) (by decide +kernel)
theorem k_154 : (Cond.fieldLink RX6 15 "TuneLocks$Reader" "text" "[B") ∈ TBg := tb_mem 475 (by decide +kernel) (by decide +kernel)
theorem k_155 : (Cond.methodLink RX6 19 Lib.Math.min.name) ∈ TBg := tb_mem 472 (by decide +kernel) (by decide +kernel)
theorem k_156 : (Cond.static Lib.Math.min.name) ∈ TBg := tb_mem 473 (by decide +kernel) (by decide +kernel)
theorem k_157 : (Cond.code Lib.Math.min.name Lib.Math.min.code 2 (some .int)) ∈ TBg := tb_mem 474 (by decide +kernel) (by decide +kernel)
theorem k_158 : (Cond.fieldLink RX6 25 "TuneLocks$Reader" "size" "I") ∈ TBg := tb_mem 476 (by decide +kernel) (by decide +kernel)
theorem k_159 : (Cond.fieldLink RX6 28 "TuneLocks$Reader" "town" "LTuneLocks$Town;") ∈ TBg := tb_mem 477 (by decide +kernel) (by decide +kernel)
theorem k_160 : (Cond.fieldLink RX6 176 "TuneLocks$Reader" "at" "I") ∈ TBg := tb_mem 478 (by decide +kernel) (by decide +kernel)
theorem k_161 : (Cond.fieldLink RX6 173 "TuneLocks$Reader" "place" "I") ∈ TBg := tb_mem 480 (by decide +kernel) (by decide +kernel)
theorem k_162 : (Cond.fieldLink RX6 40 "TuneLocks$Reader" "sort" "I") ∈ TBg := tb_mem 479 (by decide +kernel) (by decide +kernel)
theorem k_163 : (Cond.fieldLink RX9 56 "TuneLocks$Town" "units" "I") ∈ TBg := tb_mem 265 (by decide +kernel) (by decide +kernel)
theorem k_164 : (Cond.fieldLink RX9 62 "TuneLocks$Town" "SWEET_UNTOLD" "[I") ∈ TBg := tb_mem 676 (by decide +kernel) (by decide +kernel)
theorem k_165 : (Cond.code yX9_clear cX9_clear 2 none) ∈ TBg := tb_mem 518 (by decide +kernel) (by decide +kernel)
theorem k_166 : (Cond.methodLink RX6 32 yX9_clear) ∈ TBg := tb_mem 515 (by decide +kernel) (by decide +kernel)
theorem k_167 : (Cond.instanceMethod yX9_clear) ∈ TBg := tb_mem 516 (by decide +kernel) (by decide +kernel)
theorem k_168 : (Cond.selects RX9 yX9_clear yX9_clear) ∈ TBg := tb_mem 517 (by decide +kernel) (by decide +kernel)
theorem k_169 : (Cond.code yX6_takeToken cX6_takeToken 1 none) ∈ TBg := tb_mem 522 (by decide +kernel) (by decide +kernel)
theorem k_170 : (Cond.methodLink RX6 37 yX6_takeToken) ∈ TBg := tb_mem 519 (by decide +kernel) (by decide +kernel)
theorem k_171 : (Cond.instanceMethod yX6_takeToken) ∈ TBg := tb_mem 521 (by decide +kernel) (by decide +kernel)
theorem k_172 : (Cond.selects RX6 yX6_takeToken yX6_takeToken) ∈ TBg := tb_mem 1 (by decide +kernel) (by decide +kernel)
theorem k_173 : (Cond.initialized RX6) ∈ TBg := tb_mem 97 (by decide +kernel) (by decide +kernel)
theorem k_174 : (Cond.fieldLink RX6 56 "TuneLocks$Reader" "sweetTold" "Z") ∈ TBg := tb_mem 483 (by decide +kernel) (by decide +kernel)
theorem k_175 : (Cond.code yX9_sweetenUntold cX9_sweetenUntold 2 none) ∈ TBg := tb_mem 675 (by decide +kernel) (by decide +kernel)
theorem k_176 : (Cond.methodLink RX6 60 yX9_sweetenUntold) ∈ TBg := tb_mem 672 (by decide +kernel) (by decide +kernel)
theorem k_177 : (Cond.instanceMethod yX9_sweetenUntold) ∈ TBg := tb_mem 673 (by decide +kernel) (by decide +kernel)
theorem k_178 : (Cond.selects RX9 yX9_sweetenUntold yX9_sweetenUntold) ∈ TBg := tb_mem 674 (by decide +kernel) (by decide +kernel)
theorem dX9_hasLock_0 : decode cX9_hasLock 0 = .ok (.iload_n 1, 1) := by decide +kernel
theorem dX9_hasLock_1 : decode cX9_hasLock 1 = .ok (.ifCond .lt 15, 3) := by decide +kernel
theorem dX9_hasLock_16 : decode cX9_hasLock 16 = .ok (.iconst 0, 1) := by decide +kernel
theorem dX9_hasLock_17 : decode cX9_hasLock 17 = .ok (.ireturn, 1) := by decide +kernel
theorem dX9_hasLock_4 : decode cX9_hasLock 4 = .ok (.iload_n 1, 1) := by decide +kernel
theorem dX9_hasLock_5 : decode cX9_hasLock 5 = .ok (.aload_n 0, 1) := by decide +kernel
theorem dX9_hasLock_6 : decode cX9_hasLock 6 = .ok (.getfield 53, 3) := by decide +kernel
theorem dX9_hasLock_9 : decode cX9_hasLock 9 = .ok (.if_icmp .ge 7, 3) := by decide +kernel
theorem dX11_putNumber_0 : decode cX11_putNumber 0 = .ok (.bipush 24, 2) := by decide +kernel
theorem dX11_putNumber_2 : decode cX11_putNumber 2 = .ok (.istore_n 2, 1) := by decide +kernel
theorem dX11_putNumber_3 : decode cX11_putNumber 3 = .ok (.iload_n 2, 1) := by decide +kernel
theorem dX11_putNumber_4 : decode cX11_putNumber 4 = .ok (.ifCond .lt 44, 3) := by decide +kernel
theorem dX11_putNumber_7 : decode cX11_putNumber 7 = .ok (.aload_n 0, 1) := by decide +kernel
theorem dX11_putNumber_8 : decode cX11_putNumber 8 = .ok (.getfield 73, 3) := by decide +kernel
theorem dX11_putNumber_11 : decode cX11_putNumber 11 = .ok (.aload_n 0, 1) := by decide +kernel
theorem dX11_putNumber_12 : decode cX11_putNumber 12 = .ok (.getfield 9, 3) := by decide +kernel
theorem dX11_putNumber_15 : decode cX11_putNumber 15 = .ok (.arraylength, 1) := by decide +kernel
theorem dX11_putNumber_16 : decode cX11_putNumber 16 = .ok (.if_icmp .ge 26, 3) := by decide +kernel
theorem dX11_putNumber_19 : decode cX11_putNumber 19 = .ok (.aload_n 0, 1) := by decide +kernel
theorem dX11_putNumber_20 : decode cX11_putNumber 20 = .ok (.getfield 9, 3) := by decide +kernel
theorem dX11_putNumber_23 : decode cX11_putNumber 23 = .ok (.aload_n 0, 1) := by decide +kernel
theorem dX11_putNumber_24 : decode cX11_putNumber 24 = .ok (.getfield 73, 3) := by decide +kernel
theorem dX11_putNumber_27 : decode cX11_putNumber 27 = .ok (.iload_n 1, 1) := by decide +kernel
theorem dX11_putNumber_28 : decode cX11_putNumber 28 = .ok (.iload_n 2, 1) := by decide +kernel
theorem dX11_putNumber_29 : decode cX11_putNumber 29 = .ok (.ishr, 1) := by decide +kernel
theorem dX11_putNumber_30 : decode cX11_putNumber 30 = .ok (.i2b, 1) := by decide +kernel
theorem dX11_putNumber_31 : decode cX11_putNumber 31 = .ok (.bastore, 1) := by decide +kernel
theorem dX11_putNumber_32 : decode cX11_putNumber 32 = .ok (.aload_n 0, 1) := by decide +kernel
theorem dX11_putNumber_33 : decode cX11_putNumber 33 = .ok (.dup, 1) := by decide +kernel
theorem dX11_putNumber_34 : decode cX11_putNumber 34 = .ok (.getfield 73, 3) := by decide +kernel
theorem dX11_putNumber_37 : decode cX11_putNumber 37 = .ok (.iconst 1, 1) := by decide +kernel
theorem dX11_putNumber_38 : decode cX11_putNumber 38 = .ok (.iadd, 1) := by decide +kernel
theorem dX11_putNumber_39 : decode cX11_putNumber 39 = .ok (.putfield 73, 3) := by decide +kernel
theorem dX11_putNumber_42 : decode cX11_putNumber 42 = .ok (.iinc 2 (-8), 3) := by decide +kernel
theorem dX11_putNumber_45 : decode cX11_putNumber 45 = .ok (.goto (-42), 3) := by decide +kernel
theorem dX11_putNumber_48 : decode cX11_putNumber 48 = .ok (.return_, 1) := by decide +kernel
theorem dX8_add_0 : decode cX8_add 0 = .ok (.aload_n 0, 1) := by decide +kernel
theorem dX8_add_1 : decode cX8_add 1 = .ok (.getfield 24, 3) := by decide +kernel
theorem dX8_add_4 : decode cX8_add 4 = .ok (.aload_n 0, 1) := by decide +kernel
theorem dX8_add_5 : decode cX8_add 5 = .ok (.getfield 15, 3) := by decide +kernel
theorem dX8_add_8 : decode cX8_add 8 = .ok (.arraylength, 1) := by decide +kernel
theorem dX8_add_9 : decode cX8_add 9 = .ok (.if_icmp .ge 33, 3) := by decide +kernel
theorem dX8_add_12 : decode cX8_add 12 = .ok (.aload_n 0, 1) := by decide +kernel
theorem dX8_add_13 : decode cX8_add 13 = .ok (.getfield 15, 3) := by decide +kernel
theorem dX8_add_16 : decode cX8_add 16 = .ok (.aload_n 0, 1) := by decide +kernel
theorem dX8_add_17 : decode cX8_add 17 = .ok (.getfield 24, 3) := by decide +kernel
theorem dX8_add_20 : decode cX8_add 20 = .ok (.iload_n 1, 1) := by decide +kernel
theorem dX8_add_21 : decode cX8_add 21 = .ok (.iastore, 1) := by decide +kernel
theorem dX8_add_22 : decode cX8_add 22 = .ok (.aload_n 0, 1) := by decide +kernel
theorem dX8_add_23 : decode cX8_add 23 = .ok (.getfield 21, 3) := by decide +kernel
theorem dX8_add_26 : decode cX8_add 26 = .ok (.aload_n 0, 1) := by decide +kernel
theorem dX8_add_27 : decode cX8_add 27 = .ok (.getfield 24, 3) := by decide +kernel
theorem dX8_add_30 : decode cX8_add 30 = .ok (.iload_n 2, 1) := by decide +kernel
theorem dX8_add_31 : decode cX8_add 31 = .ok (.iastore, 1) := by decide +kernel
theorem dX8_add_32 : decode cX8_add 32 = .ok (.aload_n 0, 1) := by decide +kernel
theorem dX8_add_33 : decode cX8_add 33 = .ok (.dup, 1) := by decide +kernel
theorem dX8_add_34 : decode cX8_add 34 = .ok (.getfield 24, 3) := by decide +kernel
theorem dX8_add_37 : decode cX8_add 37 = .ok (.iconst 1, 1) := by decide +kernel
theorem dX8_add_38 : decode cX8_add 38 = .ok (.iadd, 1) := by decide +kernel
theorem dX8_add_39 : decode cX8_add 39 = .ok (.putfield 24, 3) := by decide +kernel
theorem dX8_add_42 : decode cX8_add 42 = .ok (.return_, 1) := by decide +kernel
theorem dX8_becomeLike_0 : decode cX8_becomeLike 0 = .ok (.aload_n 0, 1) := by decide +kernel
theorem dX8_becomeLike_1 : decode cX8_becomeLike 1 = .ok (.iconst 0, 1) := by decide +kernel
theorem dX8_becomeLike_2 : decode cX8_becomeLike 2 = .ok (.putfield 24, 3) := by decide +kernel
theorem dX8_becomeLike_5 : decode cX8_becomeLike 5 = .ok (.iconst 0, 1) := by decide +kernel
theorem dX8_becomeLike_6 : decode cX8_becomeLike 6 = .ok (.istore_n 2, 1) := by decide +kernel
theorem dX8_becomeLike_7 : decode cX8_becomeLike 7 = .ok (.iload_n 2, 1) := by decide +kernel
theorem dX8_becomeLike_8 : decode cX8_becomeLike 8 = .ok (.aload_n 1, 1) := by decide +kernel
theorem dX8_becomeLike_9 : decode cX8_becomeLike 9 = .ok (.getfield 24, 3) := by decide +kernel
theorem dX8_becomeLike_12 : decode cX8_becomeLike 12 = .ok (.if_icmp .ge 25, 3) := by decide +kernel
theorem dX8_becomeLike_37 : decode cX8_becomeLike 37 = .ok (.return_, 1) := by decide +kernel
theorem dJ7_fill_53178_0 : decode cJ7_fill_53178 0 = .ok (.iconst 0, 1) := by decide +kernel
theorem dJ7_fill_53178_1 : decode cJ7_fill_53178 1 = .ok (.istore_n 2, 1) := by decide +kernel
theorem dJ7_fill_53178_2 : decode cJ7_fill_53178 2 = .ok (.aload_n 0, 1) := by decide +kernel
theorem dJ7_fill_53178_3 : decode cJ7_fill_53178 3 = .ok (.arraylength, 1) := by decide +kernel
theorem dJ7_fill_53178_4 : decode cJ7_fill_53178 4 = .ok (.istore_n 3, 1) := by decide +kernel
theorem dJ7_fill_53178_5 : decode cJ7_fill_53178 5 = .ok (.iload_n 2, 1) := by decide +kernel
theorem dJ7_fill_53178_6 : decode cJ7_fill_53178 6 = .ok (.iload_n 3, 1) := by decide +kernel
theorem dJ7_fill_53178_7 : decode cJ7_fill_53178 7 = .ok (.if_icmp .ge 13, 3) := by decide +kernel
theorem dJ7_fill_53178_10 : decode cJ7_fill_53178 10 = .ok (.aload_n 0, 1) := by decide +kernel
theorem dJ7_fill_53178_11 : decode cJ7_fill_53178 11 = .ok (.iload_n 2, 1) := by decide +kernel
theorem dJ7_fill_53178_12 : decode cJ7_fill_53178 12 = .ok (.iload_n 1, 1) := by decide +kernel
theorem dJ7_fill_53178_13 : decode cJ7_fill_53178 13 = .ok (.iastore, 1) := by decide +kernel
theorem dJ7_fill_53178_14 : decode cJ7_fill_53178 14 = .ok (.iinc 2 1, 3) := by decide +kernel
theorem dJ7_fill_53178_17 : decode cJ7_fill_53178 17 = .ok (.goto (-12), 3) := by decide +kernel
theorem dJ7_fill_53178_20 : decode cJ7_fill_53178 20 = .ok (.return_, 1) := by decide +kernel
theorem dX7_clear_0 : decode cX7_clear 0 = .ok (.aload_n 0, 1) := by decide +kernel
theorem dX7_clear_1 : decode cX7_clear 1 = .ok (.getfield 14, 3) := by decide +kernel
theorem dX7_clear_4 : decode cX7_clear 4 = .ok (.iconst 0, 1) := by decide +kernel
theorem dX7_clear_5 : decode cX7_clear 5 = .ok (.putfield 24, 3) := by decide +kernel
theorem dX7_clear_8 : decode cX7_clear 8 = .ok (.aload_n 0, 1) := by decide +kernel
theorem dX7_clear_9 : decode cX7_clear 9 = .ok (.iconst 0, 1) := by decide +kernel
theorem dX7_clear_10 : decode cX7_clear 10 = .ok (.putfield 28, 3) := by decide +kernel
theorem dX7_clear_13 : decode cX7_clear 13 = .ok (.aload_n 0, 1) := by decide +kernel
theorem dX7_clear_14 : decode cX7_clear 14 = .ok (.iconst 0, 1) := by decide +kernel
theorem dX7_clear_15 : decode cX7_clear 15 = .ok (.putfield 32, 3) := by decide +kernel
theorem dX7_clear_18 : decode cX7_clear 18 = .ok (.aload_n 0, 1) := by decide +kernel
theorem dX7_clear_19 : decode cX7_clear 19 = .ok (.getfield 20, 3) := by decide +kernel
theorem dX7_clear_22 : decode cX7_clear 22 = .ok (.iconst 0, 1) := by decide +kernel
theorem dX7_clear_23 : decode cX7_clear 23 = .ok (.invokestatic 35, 3) := by decide +kernel
theorem dX7_clear_26 : decode cX7_clear 26 = .ok (.aload_n 0, 1) := by decide +kernel
theorem dX7_clear_27 : decode cX7_clear 27 = .ok (.iconst 0, 1) := by decide +kernel
theorem dX7_clear_28 : decode cX7_clear 28 = .ok (.putfield 41, 3) := by decide +kernel
theorem dX7_clear_31 : decode cX7_clear 31 = .ok (.return_, 1) := by decide +kernel
theorem dX7_becomeLike_0 : decode cX7_becomeLike 0 = .ok (.aload_n 0, 1) := by decide +kernel
theorem dX7_becomeLike_1 : decode cX7_becomeLike 1 = .ok (.getfield 14, 3) := by decide +kernel
theorem dX7_becomeLike_4 : decode cX7_becomeLike 4 = .ok (.aload_n 1, 1) := by decide +kernel
theorem dX7_becomeLike_5 : decode cX7_becomeLike 5 = .ok (.getfield 14, 3) := by decide +kernel
theorem dX7_becomeLike_8 : decode cX7_becomeLike 8 = .ok (.invokevirtual 44, 3) := by decide +kernel
theorem dX7_becomeLike_11 : decode cX7_becomeLike 11 = .ok (.aload_n 0, 1) := by decide +kernel
theorem dX7_becomeLike_12 : decode cX7_becomeLike 12 = .ok (.aload_n 1, 1) := by decide +kernel
theorem dX7_becomeLike_13 : decode cX7_becomeLike 13 = .ok (.getfield 28, 3) := by decide +kernel
theorem dX7_becomeLike_16 : decode cX7_becomeLike 16 = .ok (.putfield 28, 3) := by decide +kernel
theorem dX7_becomeLike_19 : decode cX7_becomeLike 19 = .ok (.aload_n 0, 1) := by decide +kernel
theorem dX7_becomeLike_20 : decode cX7_becomeLike 20 = .ok (.aload_n 1, 1) := by decide +kernel
theorem dX7_becomeLike_21 : decode cX7_becomeLike 21 = .ok (.getfield 32, 3) := by decide +kernel
theorem dX7_becomeLike_24 : decode cX7_becomeLike 24 = .ok (.putfield 32, 3) := by decide +kernel
theorem dX7_becomeLike_27 : decode cX7_becomeLike 27 = .ok (.aload_n 1, 1) := by decide +kernel
theorem dX7_becomeLike_28 : decode cX7_becomeLike 28 = .ok (.getfield 20, 3) := by decide +kernel
theorem dX7_becomeLike_31 : decode cX7_becomeLike 31 = .ok (.iconst 0, 1) := by decide +kernel
theorem dX7_becomeLike_32 : decode cX7_becomeLike 32 = .ok (.aload_n 0, 1) := by decide +kernel
theorem dX7_becomeLike_33 : decode cX7_becomeLike 33 = .ok (.getfield 20, 3) := by decide +kernel
theorem dX7_becomeLike_36 : decode cX7_becomeLike 36 = .ok (.iconst 0, 1) := by decide +kernel
theorem dX7_becomeLike_37 : decode cX7_becomeLike 37 = .ok (.bipush 8, 2) := by decide +kernel
theorem dX7_becomeLike_39 : decode cX7_becomeLike 39 = .ok (.invokestatic 48, 3) := by decide +kernel
theorem dX7_becomeLike_42 : decode cX7_becomeLike 42 = .ok (.return_, 1) := by decide +kernel
theorem dX2_hearAll_0 : decode cX2_hearAll 0 = .ok (.aload_n 0, 1) := by decide +kernel
theorem dX2_hearAll_1 : decode cX2_hearAll 1 = .ok (.aload_n 1, 1) := by decide +kernel
theorem dX2_hearAll_2 : decode cX2_hearAll 2 = .ok (.getfield 24, 3) := by decide +kernel
theorem dX2_hearAll_5 : decode cX2_hearAll 5 = .ok (.putfield 30, 3) := by decide +kernel
theorem dX2_hearAll_8 : decode cX2_hearAll 8 = .ok (.iconst 0, 1) := by decide +kernel
theorem dX2_hearAll_9 : decode cX2_hearAll 9 = .ok (.istore_n 3, 1) := by decide +kernel
theorem dX2_hearAll_10 : decode cX2_hearAll 10 = .ok (.iload_n 3, 1) := by decide +kernel
theorem dX2_hearAll_11 : decode cX2_hearAll 11 = .ok (.aload_n 2, 1) := by decide +kernel
theorem dX2_hearAll_12 : decode cX2_hearAll 12 = .ok (.getfield 33, 3) := by decide +kernel
theorem dX2_hearAll_15 : decode cX2_hearAll 15 = .ok (.if_icmp .ge 88, 3) := by decide +kernel
theorem dX2_hearAll_103 : decode cX2_hearAll 103 = .ok (.return_, 1) := by decide +kernel
theorem dX2_hearLast_0 : decode cX2_hearLast 0 = .ok (.aload_n 0, 1) := by decide +kernel
theorem dX2_hearLast_1 : decode cX2_hearLast 1 = .ok (.aload_n 1, 1) := by decide +kernel
theorem dX2_hearLast_2 : decode cX2_hearLast 2 = .ok (.getfield 24, 3) := by decide +kernel
theorem dX2_hearLast_5 : decode cX2_hearLast 5 = .ok (.putfield 30, 3) := by decide +kernel
theorem dX2_hearLast_8 : decode cX2_hearLast 8 = .ok (.iconst 0, 1) := by decide +kernel
theorem dX2_hearLast_9 : decode cX2_hearLast 9 = .ok (.istore_n 3, 1) := by decide +kernel
theorem dX2_hearLast_10 : decode cX2_hearLast 10 = .ok (.iload_n 3, 1) := by decide +kernel
theorem dX2_hearLast_11 : decode cX2_hearLast 11 = .ok (.aload_n 2, 1) := by decide +kernel
theorem dX2_hearLast_12 : decode cX2_hearLast 12 = .ok (.getfield 33, 3) := by decide +kernel
theorem dX2_hearLast_15 : decode cX2_hearLast 15 = .ok (.if_icmp .ge 49, 3) := by decide +kernel
theorem dX2_hearLast_64 : decode cX2_hearLast 64 = .ok (.return_, 1) := by decide +kernel
theorem dX10_clear_0 : decode cX10_clear 0 = .ok (.aload_n 0, 1) := by decide +kernel
theorem dX10_clear_1 : decode cX10_clear 1 = .ok (.iconst 0, 1) := by decide +kernel
theorem dX10_clear_2 : decode cX10_clear 2 = .ok (.putfield 28, 3) := by decide +kernel
theorem dX10_clear_5 : decode cX10_clear 5 = .ok (.return_, 1) := by decide +kernel
theorem dX10_takeBack_0 : decode cX10_takeBack 0 = .ok (.iload_n 1, 1) := by decide +kernel
theorem dX10_takeBack_1 : decode cX10_takeBack 1 = .ok (.ifCond .lt 21, 3) := by decide +kernel
theorem dX10_takeBack_22 : decode cX10_takeBack 22 = .ok (.iconst 0, 1) := by decide +kernel
theorem dX10_takeBack_23 : decode cX10_takeBack 23 = .ok (.ireturn, 1) := by decide +kernel
theorem dX10_takeBack_4 : decode cX10_takeBack 4 = .ok (.iload_n 1, 1) := by decide +kernel
theorem dX10_takeBack_5 : decode cX10_takeBack 5 = .ok (.aload_n 0, 1) := by decide +kernel
theorem dX10_takeBack_6 : decode cX10_takeBack 6 = .ok (.getfield 28, 3) := by decide +kernel
theorem dX10_takeBack_9 : decode cX10_takeBack 9 = .ok (.if_icmp .ge 13, 3) := by decide +kernel
theorem dX10_leftAt_0 : decode cX10_leftAt 0 = .ok (.iconst 1, 1) := by decide +kernel
theorem dX10_leftAt_1 : decode cX10_leftAt 1 = .ok (.aload_n 2, 1) := by decide +kernel
theorem dX10_leftAt_2 : decode cX10_leftAt 2 = .ok (.getfield 32, 3) := by decide +kernel
theorem dX10_leftAt_5 : decode cX10_leftAt 5 = .ok (.ishl, 1) := by decide +kernel
theorem dX10_leftAt_6 : decode cX10_leftAt 6 = .ok (.iconst 1, 1) := by decide +kernel
theorem dX10_leftAt_7 : decode cX10_leftAt 7 = .ok (.isub, 1) := by decide +kernel
theorem dX10_leftAt_8 : decode cX10_leftAt 8 = .ok (.istore_n 3, 1) := by decide +kernel
theorem dX10_leftAt_9 : decode cX10_leftAt 9 = .ok (.iconst 0, 1) := by decide +kernel
theorem dX10_leftAt_10 : decode cX10_leftAt 10 = .ok (.istore 4, 2) := by decide +kernel
theorem dX10_leftAt_12 : decode cX10_leftAt 12 = .ok (.iload 4, 2) := by decide +kernel
theorem dX10_leftAt_14 : decode cX10_leftAt 14 = .ok (.aload_n 0, 1) := by decide +kernel
theorem dX10_leftAt_15 : decode cX10_leftAt 15 = .ok (.getfield 28, 3) := by decide +kernel
theorem dX10_leftAt_18 : decode cX10_leftAt 18 = .ok (.if_icmp .ge 79, 3) := by decide +kernel
theorem dX10_leftAt_97 : decode cX10_leftAt 97 = .ok (.iload_n 3, 1) := by decide +kernel
theorem dX10_leftAt_98 : decode cX10_leftAt 98 = .ok (.ireturn, 1) := by decide +kernel
theorem dX1_pick_0 : decode cX1_pick 0 = .ok (.iload_n 3, 1) := by decide +kernel
theorem dX1_pick_1 : decode cX1_pick 1 = .ok (.iload_n 1, 1) := by decide +kernel
theorem dX1_pick_2 : decode cX1_pick 2 = .ok (.iadd, 1) := by decide +kernel
theorem dX1_pick_3 : decode cX1_pick 3 = .ok (.aload_n 0, 1) := by decide +kernel
theorem dX1_pick_4 : decode cX1_pick 4 = .ok (.getfield 28, 3) := by decide +kernel
theorem dX1_pick_7 : decode cX1_pick 7 = .ok (.if_icmp .gt 4, 3) := by decide +kernel
theorem dX1_pick_11 : decode cX1_pick 11 = .ok (.iload_n 1, 1) := by decide +kernel
theorem dX1_pick_12 : decode cX1_pick 12 = .ok (.iconst 1, 1) := by decide +kernel
theorem dX1_pick_13 : decode cX1_pick 13 = .ok (.if_icmp .lt 12, 3) := by decide +kernel
theorem dX1_pick_25 : decode cX1_pick 25 = .ok (.aload_n 0, 1) := by decide +kernel
theorem dX1_pick_26 : decode cX1_pick 26 = .ok (.iload_n 2, 1) := by decide +kernel
theorem dX1_pick_27 : decode cX1_pick 27 = .ok (.putfield 25, 3) := by decide +kernel
theorem dX1_pick_30 : decode cX1_pick 30 = .ok (.aload_n 0, 1) := by decide +kernel
theorem dX1_pick_31 : decode cX1_pick 31 = .ok (.iload_n 3, 1) := by decide +kernel
theorem dX1_pick_32 : decode cX1_pick 32 = .ok (.putfield 28, 3) := by decide +kernel
theorem dX1_pick_35 : decode cX1_pick 35 = .ok (.return_, 1) := by decide +kernel
theorem dX1_choose_0 : decode cX1_choose 0 = .ok (.iconst 0, 1) := by decide +kernel
theorem dX1_choose_1 : decode cX1_choose 1 = .ok (.istore_n 3, 1) := by decide +kernel
theorem dX1_choose_2 : decode cX1_choose 2 = .ok (.iload_n 3, 1) := by decide +kernel
theorem dX1_choose_3 : decode cX1_choose 3 = .ok (.aload_n 1, 1) := by decide +kernel
theorem dX1_choose_4 : decode cX1_choose 4 = .ok (.getfield 15, 3) := by decide +kernel
theorem dX1_choose_7 : decode cX1_choose 7 = .ok (.if_icmp .ge 64, 3) := by decide +kernel
theorem dX1_choose_71 : decode cX1_choose 71 = .ok (.aload_n 0, 1) := by decide +kernel
theorem dX1_choose_72 : decode cX1_choose 72 = .ok (.iconst 0, 1) := by decide +kernel
theorem dX1_choose_73 : decode cX1_choose 73 = .ok (.putfield 25, 3) := by decide +kernel
theorem dX1_choose_76 : decode cX1_choose 76 = .ok (.aload_n 0, 1) := by decide +kernel
theorem dX1_choose_77 : decode cX1_choose 77 = .ok (.iconst (-1), 1) := by decide +kernel
theorem dX1_choose_78 : decode cX1_choose 78 = .ok (.putfield 28, 3) := by decide +kernel
theorem dX1_choose_81 : decode cX1_choose 81 = .ok (.aload_n 0, 1) := by decide +kernel
theorem dX1_choose_82 : decode cX1_choose 82 = .ok (.aload_n 1, 1) := by decide +kernel
theorem dX1_choose_83 : decode cX1_choose 83 = .ok (.getfield 15, 3) := by decide +kernel
theorem dX1_choose_86 : decode cX1_choose 86 = .ok (.iconst 0, 1) := by decide +kernel
theorem dX1_choose_87 : decode cX1_choose 87 = .ok (.iconst 0, 1) := by decide +kernel
theorem dX1_choose_88 : decode cX1_choose 88 = .ok (.invokestatic 31, 3) := by decide +kernel
theorem dX1_choose_91 : decode cX1_choose 91 = .ok (.aload_n 0, 1) := by decide +kernel
theorem dX1_choose_92 : decode cX1_choose 92 = .ok (.getfield 25, 3) := by decide +kernel
theorem dX1_choose_95 : decode cX1_choose 95 = .ok (.ireturn, 1) := by decide +kernel
theorem dX3_layNext_0 : decode cX3_layNext 0 = .ok (.iload_n 3, 1) := by decide +kernel
theorem dX3_layNext_1 : decode cX3_layNext 1 = .ok (.aload_n 0, 1) := by decide +kernel
theorem dX3_layNext_2 : decode cX3_layNext 2 = .ok (.getfield 29, 3) := by decide +kernel
theorem dX3_layNext_5 : decode cX3_layNext 5 = .ok (.if_icmp .lt 4, 3) := by decide +kernel
theorem dX3_layNext_9 : decode cX3_layNext 9 = .ok (.iload_n 1, 1) := by decide +kernel
theorem dX3_layNext_10 : decode cX3_layNext 10 = .ok (.aload_n 0, 1) := by decide +kernel
theorem dX3_layNext_11 : decode cX3_layNext 11 = .ok (.getfield 33, 3) := by decide +kernel
theorem dX3_layNext_14 : decode cX3_layNext 14 = .ok (.if_icmp .ge 9, 3) := by decide +kernel
theorem dX3_layNext_23 : decode cX3_layNext 23 = .ok (.aload_n 0, 1) := by decide +kernel
theorem dX3_layNext_24 : decode cX3_layNext 24 = .ok (.iload_n 3, 1) := by decide +kernel
theorem dX3_layNext_25 : decode cX3_layNext 25 = .ok (.putfield 29, 3) := by decide +kernel
theorem dX3_layNext_28 : decode cX3_layNext 28 = .ok (.aload_n 0, 1) := by decide +kernel
theorem dX3_layNext_29 : decode cX3_layNext 29 = .ok (.getfield 23, 3) := by decide +kernel
theorem dX3_layNext_32 : decode cX3_layNext 32 = .ok (.iconst 0, 1) := by decide +kernel
theorem dX3_layNext_33 : decode cX3_layNext 33 = .ok (.aload_n 0, 1) := by decide +kernel
theorem dX3_layNext_34 : decode cX3_layNext 34 = .ok (.getfield 26, 3) := by decide +kernel
theorem dX3_layNext_37 : decode cX3_layNext 37 = .ok (.iconst 0, 1) := by decide +kernel
theorem dX3_layNext_38 : decode cX3_layNext 38 = .ok (.bipush 6, 2) := by decide +kernel
theorem dX3_layNext_40 : decode cX3_layNext 40 = .ok (.invokestatic 74, 3) := by decide +kernel
theorem dX3_layNext_43 : decode cX3_layNext 43 = .ok (.return_, 1) := by decide +kernel
theorem dX3_lay_0 : decode cX3_lay 0 = .ok (.aload_n 0, 1) := by decide +kernel
theorem dX3_lay_1 : decode cX3_lay 1 = .ok (.iconst 0, 1) := by decide +kernel
theorem dX3_lay_2 : decode cX3_lay 2 = .ok (.putfield 33, 3) := by decide +kernel
theorem dX3_lay_5 : decode cX3_lay 5 = .ok (.iconst 0, 1) := by decide +kernel
theorem dX3_lay_6 : decode cX3_lay 6 = .ok (.istore_n 3, 1) := by decide +kernel
theorem dX3_lay_7 : decode cX3_lay 7 = .ok (.iload_n 3, 1) := by decide +kernel
theorem dX3_lay_8 : decode cX3_lay 8 = .ok (.aload_n 1, 1) := by decide +kernel
theorem dX3_lay_9 : decode cX3_lay 9 = .ok (.getfield 36, 3) := by decide +kernel
theorem dX3_lay_12 : decode cX3_lay 12 = .ok (.if_icmp .ge 73, 3) := by decide +kernel
theorem dX3_lay_85 : decode cX3_lay 85 = .ok (.iconst 0, 1) := by decide +kernel
theorem dX3_lay_86 : decode cX3_lay 86 = .ok (.istore_n 3, 1) := by decide +kernel
theorem dX3_lay_87 : decode cX3_lay 87 = .ok (.iload_n 3, 1) := by decide +kernel
theorem dX3_lay_88 : decode cX3_lay 88 = .ok (.aload_n 0, 1) := by decide +kernel
theorem dX3_lay_89 : decode cX3_lay 89 = .ok (.getfield 33, 3) := by decide +kernel
theorem dX3_lay_92 : decode cX3_lay 92 = .ok (.if_icmp .ge 62, 3) := by decide +kernel
theorem dX3_lay_154 : decode cX3_lay 154 = .ok (.aload_n 0, 1) := by decide +kernel
theorem dX3_lay_155 : decode cX3_lay 155 = .ok (.bipush 73, 2) := by decide +kernel
theorem dX3_lay_157 : decode cX3_lay 157 = .ok (.putfield 29, 3) := by decide +kernel
theorem dX3_lay_160 : decode cX3_lay 160 = .ok (.aload_n 0, 1) := by decide +kernel
theorem dX3_lay_161 : decode cX3_lay 161 = .ok (.iconst 0, 1) := by decide +kernel
theorem dX3_lay_162 : decode cX3_lay 162 = .ok (.iconst 0, 1) := by decide +kernel
theorem dX3_lay_163 : decode cX3_lay 163 = .ok (.iconst 0, 1) := by decide +kernel
theorem dX3_lay_164 : decode cX3_lay 164 = .ok (.invokestatic 56, 3) := by decide +kernel
theorem dX3_lay_167 : decode cX3_lay 167 = .ok (.return_, 1) := by decide +kernel
theorem dX3_fewestNotes_0 : decode cX3_fewestNotes 0 = .ok (.aload_n 0, 1) := by decide +kernel
theorem dX3_fewestNotes_1 : decode cX3_fewestNotes 1 = .ok (.getfield 29, 3) := by decide +kernel
theorem dX3_fewestNotes_4 : decode cX3_fewestNotes 4 = .ok (.ireturn, 1) := by decide +kernel
theorem dX3_laidAt_0 : decode cX3_laidAt 0 = .ok (.iload_n 1, 1) := by decide +kernel
theorem dX3_laidAt_1 : decode cX3_laidAt 1 = .ok (.ifCond .lt 25, 3) := by decide +kernel
theorem dX3_laidAt_26 : decode cX3_laidAt 26 = .ok (.iconst (-1), 1) := by decide +kernel
theorem dX3_laidAt_27 : decode cX3_laidAt 27 = .ok (.ireturn, 1) := by decide +kernel
theorem dX3_laidAt_4 : decode cX3_laidAt 4 = .ok (.iload_n 1, 1) := by decide +kernel
theorem dX3_laidAt_5 : decode cX3_laidAt 5 = .ok (.aload_n 0, 1) := by decide +kernel
theorem dX3_laidAt_6 : decode cX3_laidAt 6 = .ok (.getfield 33, 3) := by decide +kernel
theorem dX3_laidAt_9 : decode cX3_laidAt 9 = .ok (.if_icmp .ge 17, 3) := by decide +kernel
theorem dJ6_bitCount_0f7a4_0 : decode cJ6_bitCount_0f7a4 0 = .ok (.iload_n 0, 1) := by decide +kernel
theorem dJ6_bitCount_0f7a4_1 : decode cJ6_bitCount_0f7a4 1 = .ok (.iload_n 0, 1) := by decide +kernel
theorem dJ6_bitCount_0f7a4_2 : decode cJ6_bitCount_0f7a4 2 = .ok (.iconst 1, 1) := by decide +kernel
theorem dJ6_bitCount_0f7a4_3 : decode cJ6_bitCount_0f7a4 3 = .ok (.iushr, 1) := by decide +kernel
theorem dJ6_bitCount_0f7a4_4 : decode cJ6_bitCount_0f7a4 4 = .ok (.ldc_w 265, 3) := by decide +kernel
theorem dJ6_bitCount_0f7a4_7 : decode cJ6_bitCount_0f7a4 7 = .ok (.iand, 1) := by decide +kernel
theorem dJ6_bitCount_0f7a4_8 : decode cJ6_bitCount_0f7a4 8 = .ok (.isub, 1) := by decide +kernel
theorem dJ6_bitCount_0f7a4_9 : decode cJ6_bitCount_0f7a4 9 = .ok (.istore_n 0, 1) := by decide +kernel
theorem dJ6_bitCount_0f7a4_10 : decode cJ6_bitCount_0f7a4 10 = .ok (.iload_n 0, 1) := by decide +kernel
theorem dJ6_bitCount_0f7a4_11 : decode cJ6_bitCount_0f7a4 11 = .ok (.ldc_w 266, 3) := by decide +kernel
theorem dJ6_bitCount_0f7a4_14 : decode cJ6_bitCount_0f7a4 14 = .ok (.iand, 1) := by decide +kernel
theorem dJ6_bitCount_0f7a4_15 : decode cJ6_bitCount_0f7a4 15 = .ok (.iload_n 0, 1) := by decide +kernel
theorem dJ6_bitCount_0f7a4_16 : decode cJ6_bitCount_0f7a4 16 = .ok (.iconst 2, 1) := by decide +kernel
theorem dJ6_bitCount_0f7a4_17 : decode cJ6_bitCount_0f7a4 17 = .ok (.iushr, 1) := by decide +kernel
theorem dJ6_bitCount_0f7a4_18 : decode cJ6_bitCount_0f7a4 18 = .ok (.ldc_w 266, 3) := by decide +kernel
theorem dJ6_bitCount_0f7a4_21 : decode cJ6_bitCount_0f7a4 21 = .ok (.iand, 1) := by decide +kernel
theorem dJ6_bitCount_0f7a4_22 : decode cJ6_bitCount_0f7a4 22 = .ok (.iadd, 1) := by decide +kernel
theorem dJ6_bitCount_0f7a4_23 : decode cJ6_bitCount_0f7a4 23 = .ok (.istore_n 0, 1) := by decide +kernel
theorem dJ6_bitCount_0f7a4_24 : decode cJ6_bitCount_0f7a4 24 = .ok (.iload_n 0, 1) := by decide +kernel
theorem dJ6_bitCount_0f7a4_25 : decode cJ6_bitCount_0f7a4 25 = .ok (.iload_n 0, 1) := by decide +kernel
theorem dJ6_bitCount_0f7a4_26 : decode cJ6_bitCount_0f7a4 26 = .ok (.iconst 4, 1) := by decide +kernel
theorem dJ6_bitCount_0f7a4_27 : decode cJ6_bitCount_0f7a4 27 = .ok (.iushr, 1) := by decide +kernel
theorem dJ6_bitCount_0f7a4_28 : decode cJ6_bitCount_0f7a4 28 = .ok (.iadd, 1) := by decide +kernel
theorem dJ6_bitCount_0f7a4_29 : decode cJ6_bitCount_0f7a4 29 = .ok (.ldc_w 267, 3) := by decide +kernel
theorem dJ6_bitCount_0f7a4_32 : decode cJ6_bitCount_0f7a4 32 = .ok (.iand, 1) := by decide +kernel
theorem dJ6_bitCount_0f7a4_33 : decode cJ6_bitCount_0f7a4 33 = .ok (.istore_n 0, 1) := by decide +kernel
theorem dJ6_bitCount_0f7a4_34 : decode cJ6_bitCount_0f7a4 34 = .ok (.iload_n 0, 1) := by decide +kernel
theorem dJ6_bitCount_0f7a4_35 : decode cJ6_bitCount_0f7a4 35 = .ok (.iload_n 0, 1) := by decide +kernel
theorem dJ6_bitCount_0f7a4_36 : decode cJ6_bitCount_0f7a4 36 = .ok (.bipush 8, 2) := by decide +kernel
theorem dJ6_bitCount_0f7a4_38 : decode cJ6_bitCount_0f7a4 38 = .ok (.iushr, 1) := by decide +kernel
theorem dJ6_bitCount_0f7a4_39 : decode cJ6_bitCount_0f7a4 39 = .ok (.iadd, 1) := by decide +kernel
theorem dJ6_bitCount_0f7a4_40 : decode cJ6_bitCount_0f7a4 40 = .ok (.istore_n 0, 1) := by decide +kernel
theorem dJ6_bitCount_0f7a4_41 : decode cJ6_bitCount_0f7a4 41 = .ok (.iload_n 0, 1) := by decide +kernel
theorem dJ6_bitCount_0f7a4_42 : decode cJ6_bitCount_0f7a4 42 = .ok (.iload_n 0, 1) := by decide +kernel
theorem dJ6_bitCount_0f7a4_43 : decode cJ6_bitCount_0f7a4 43 = .ok (.bipush 16, 2) := by decide +kernel
theorem dJ6_bitCount_0f7a4_45 : decode cJ6_bitCount_0f7a4 45 = .ok (.iushr, 1) := by decide +kernel
theorem dJ6_bitCount_0f7a4_46 : decode cJ6_bitCount_0f7a4 46 = .ok (.iadd, 1) := by decide +kernel
theorem dJ6_bitCount_0f7a4_47 : decode cJ6_bitCount_0f7a4 47 = .ok (.istore_n 0, 1) := by decide +kernel
theorem dJ6_bitCount_0f7a4_48 : decode cJ6_bitCount_0f7a4 48 = .ok (.iload_n 0, 1) := by decide +kernel
theorem dJ6_bitCount_0f7a4_49 : decode cJ6_bitCount_0f7a4 49 = .ok (.bipush 63, 2) := by decide +kernel
theorem dJ6_bitCount_0f7a4_51 : decode cJ6_bitCount_0f7a4 51 = .ok (.iand, 1) := by decide +kernel
theorem dJ6_bitCount_0f7a4_52 : decode cJ6_bitCount_0f7a4 52 = .ok (.ireturn, 1) := by decide +kernel
theorem dX11_canBeSung_0 : decode cX11_canBeSung 0 = .ok (.iload_n 0, 1) := by decide +kernel
theorem dX11_canBeSung_1 : decode cX11_canBeSung 1 = .ok (.ifCond .lt 13, 3) := by decide +kernel
theorem dX11_canBeSung_14 : decode cX11_canBeSung 14 = .ok (.iconst 0, 1) := by decide +kernel
theorem dX11_canBeSung_15 : decode cX11_canBeSung 15 = .ok (.ireturn, 1) := by decide +kernel
theorem dX11_canBeSung_4 : decode cX11_canBeSung 4 = .ok (.iload_n 0, 1) := by decide +kernel
theorem dX11_canBeSung_5 : decode cX11_canBeSung 5 = .ok (.bipush 60, 2) := by decide +kernel
theorem dX11_canBeSung_7 : decode cX11_canBeSung 7 = .ok (.if_icmp .gt 7, 3) := by decide +kernel
theorem dX11_canBeSung_10 : decode cX11_canBeSung 10 = .ok (.iconst 1, 1) := by decide +kernel
theorem dX11_canBeSung_11 : decode cX11_canBeSung 11 = .ok (.goto 4, 3) := by decide +kernel
theorem dX6_init_0 : decode cX6_init 0 = .ok (.aload_n 0, 1) := by decide +kernel
theorem dX6_init_1 : decode cX6_init 1 = .ok (.invokespecial 3, 3) := by decide +kernel
theorem dX6_init_4 : decode cX6_init 4 = .ok (.aload_n 0, 1) := by decide +kernel
theorem dX6_init_5 : decode cX6_init 5 = .ok (.iconst (-1), 1) := by decide +kernel
theorem dX6_init_6 : decode cX6_init 6 = .ok (.putfield 9, 3) := by decide +kernel
theorem dX6_init_9 : decode cX6_init 9 = .ok (.aload_n 0, 1) := by decide +kernel
theorem dX6_init_10 : decode cX6_init 10 = .ok (.aload_n 1, 1) := by decide +kernel
theorem dX6_init_11 : decode cX6_init 11 = .ok (.putfield 15, 3) := by decide +kernel
theorem dX6_init_14 : decode cX6_init 14 = .ok (.aload_n 0, 1) := by decide +kernel
theorem dX6_init_15 : decode cX6_init 15 = .ok (.iload_n 2, 1) := by decide +kernel
theorem dX6_init_16 : decode cX6_init 16 = .ok (.aload_n 1, 1) := by decide +kernel
theorem dX6_init_17 : decode cX6_init 17 = .ok (.arraylength, 1) := by decide +kernel
theorem dX6_init_18 : decode cX6_init 18 = .ok (.invokestatic 19, 3) := by decide +kernel
theorem dX6_init_21 : decode cX6_init 21 = .ok (.putfield 25, 3) := by decide +kernel
theorem dX6_init_24 : decode cX6_init 24 = .ok (.aload_n 0, 1) := by decide +kernel
theorem dX6_init_25 : decode cX6_init 25 = .ok (.aload_n 3, 1) := by decide +kernel
theorem dX6_init_26 : decode cX6_init 26 = .ok (.putfield 28, 3) := by decide +kernel
theorem dX6_init_29 : decode cX6_init 29 = .ok (.return_, 1) := by decide +kernel
theorem dX6_takeToken_0 : decode cX6_takeToken 0 = .ok (.aload_n 0, 1) := by decide +kernel
theorem dX6_takeToken_1 : decode cX6_takeToken 1 = .ok (.getfield 176, 3) := by decide +kernel
theorem dX6_takeToken_4 : decode cX6_takeToken 4 = .ok (.aload_n 0, 1) := by decide +kernel
theorem dX6_takeToken_5 : decode cX6_takeToken 5 = .ok (.getfield 25, 3) := by decide +kernel
theorem dX6_takeToken_8 : decode cX6_takeToken 8 = .ok (.if_icmp .ge 44, 3) := by decide +kernel
theorem dX6_takeToken_52 : decode cX6_takeToken 52 = .ok (.aload_n 0, 1) := by decide +kernel
theorem dX6_takeToken_53 : decode cX6_takeToken 53 = .ok (.aload_n 0, 1) := by decide +kernel
theorem dX6_takeToken_54 : decode cX6_takeToken 54 = .ok (.getfield 176, 3) := by decide +kernel
theorem dX6_takeToken_57 : decode cX6_takeToken 57 = .ok (.putfield 173, 3) := by decide +kernel
theorem dX6_takeToken_60 : decode cX6_takeToken 60 = .ok (.aload_n 0, 1) := by decide +kernel
theorem dX6_takeToken_61 : decode cX6_takeToken 61 = .ok (.getfield 176, 3) := by decide +kernel
theorem dX6_takeToken_64 : decode cX6_takeToken 64 = .ok (.aload_n 0, 1) := by decide +kernel
theorem dX6_takeToken_65 : decode cX6_takeToken 65 = .ok (.getfield 25, 3) := by decide +kernel
theorem dX6_takeToken_68 : decode cX6_takeToken 68 = .ok (.if_icmp .lt 12, 3) := by decide +kernel
theorem dX6_takeToken_71 : decode cX6_takeToken 71 = .ok (.aload_n 0, 1) := by decide +kernel
theorem dX6_takeToken_72 : decode cX6_takeToken 72 = .ok (.bipush 17, 2) := by decide +kernel
theorem dX6_takeToken_74 : decode cX6_takeToken 74 = .ok (.putfield 40, 3) := by decide +kernel
theorem dX6_takeToken_77 : decode cX6_takeToken 77 = .ok (.goto 99, 3) := by decide +kernel
theorem dX6_takeToken_176 : decode cX6_takeToken 176 = .ok (.return_, 1) := by decide +kernel
theorem dX9_clear_0 : decode cX9_clear 0 = .ok (.aload_n 0, 1) := by decide +kernel
theorem dX9_clear_1 : decode cX9_clear 1 = .ok (.iconst 0, 1) := by decide +kernel
theorem dX9_clear_2 : decode cX9_clear 2 = .ok (.putfield 49, 3) := by decide +kernel
theorem dX9_clear_5 : decode cX9_clear 5 = .ok (.aload_n 0, 1) := by decide +kernel
theorem dX9_clear_6 : decode cX9_clear 6 = .ok (.iconst 0, 1) := by decide +kernel
theorem dX9_clear_7 : decode cX9_clear 7 = .ok (.putfield 53, 3) := by decide +kernel
theorem dX9_clear_10 : decode cX9_clear 10 = .ok (.aload_n 0, 1) := by decide +kernel
theorem dX9_clear_11 : decode cX9_clear 11 = .ok (.iconst 0, 1) := by decide +kernel
theorem dX9_clear_12 : decode cX9_clear 12 = .ok (.putfield 56, 3) := by decide +kernel
theorem dX9_clear_15 : decode cX9_clear 15 = .ok (.aload_n 0, 1) := by decide +kernel
theorem dX9_clear_16 : decode cX9_clear 16 = .ok (.getfield 36, 3) := by decide +kernel
theorem dX9_clear_19 : decode cX9_clear 19 = .ok (.iconst 0, 1) := by decide +kernel
theorem dX9_clear_20 : decode cX9_clear 20 = .ok (.putfield 59, 3) := by decide +kernel
theorem dX9_clear_23 : decode cX9_clear 23 = .ok (.iconst 0, 1) := by decide +kernel
theorem dX9_clear_24 : decode cX9_clear 24 = .ok (.istore_n 1, 1) := by decide +kernel
theorem dX9_clear_25 : decode cX9_clear 25 = .ok (.iload_n 1, 1) := by decide +kernel
theorem dX9_clear_26 : decode cX9_clear 26 = .ok (.aload_n 0, 1) := by decide +kernel
theorem dX9_clear_27 : decode cX9_clear 27 = .ok (.getfield 40, 3) := by decide +kernel
theorem dX9_clear_30 : decode cX9_clear 30 = .ok (.arraylength, 1) := by decide +kernel
theorem dX9_clear_31 : decode cX9_clear 31 = .ok (.if_icmp .ge 16, 3) := by decide +kernel
theorem dX9_clear_34 : decode cX9_clear 34 = .ok (.aload_n 0, 1) := by decide +kernel
theorem dX9_clear_35 : decode cX9_clear 35 = .ok (.getfield 40, 3) := by decide +kernel
theorem dX9_clear_38 : decode cX9_clear 38 = .ok (.iload_n 1, 1) := by decide +kernel
theorem dX9_clear_39 : decode cX9_clear 39 = .ok (.iconst 0, 1) := by decide +kernel
theorem dX9_clear_40 : decode cX9_clear 40 = .ok (.bastore, 1) := by decide +kernel
theorem dX9_clear_41 : decode cX9_clear 41 = .ok (.iinc 1 1, 3) := by decide +kernel
theorem dX9_clear_44 : decode cX9_clear 44 = .ok (.goto (-19), 3) := by decide +kernel
theorem dX9_clear_47 : decode cX9_clear 47 = .ok (.return_, 1) := by decide +kernel
theorem dX9_sweetenUntold_0 : decode cX9_sweetenUntold 0 = .ok (.iconst 0, 1) := by decide +kernel
theorem dX9_sweetenUntold_1 : decode cX9_sweetenUntold 1 = .ok (.istore_n 1, 1) := by decide +kernel
theorem dX9_sweetenUntold_2 : decode cX9_sweetenUntold 2 = .ok (.iload_n 1, 1) := by decide +kernel
theorem dX9_sweetenUntold_3 : decode cX9_sweetenUntold 3 = .ok (.getstatic 62, 3) := by decide +kernel
theorem dX9_sweetenUntold_6 : decode cX9_sweetenUntold 6 = .ok (.arraylength, 1) := by decide +kernel
theorem dX9_sweetenUntold_7 : decode cX9_sweetenUntold 7 = .ok (.if_icmp .ge 20, 3) := by decide +kernel
theorem dX9_sweetenUntold_10 : decode cX9_sweetenUntold 10 = .ok (.aload_n 0, 1) := by decide +kernel
theorem dX9_sweetenUntold_11 : decode cX9_sweetenUntold 11 = .ok (.getfield 40, 3) := by decide +kernel
theorem dX9_sweetenUntold_14 : decode cX9_sweetenUntold 14 = .ok (.getstatic 62, 3) := by decide +kernel
theorem dX9_sweetenUntold_17 : decode cX9_sweetenUntold 17 = .ok (.iload_n 1, 1) := by decide +kernel
theorem dX9_sweetenUntold_18 : decode cX9_sweetenUntold 18 = .ok (.iaload, 1) := by decide +kernel
theorem dX9_sweetenUntold_19 : decode cX9_sweetenUntold 19 = .ok (.iconst 1, 1) := by decide +kernel
theorem dX9_sweetenUntold_20 : decode cX9_sweetenUntold 20 = .ok (.bastore, 1) := by decide +kernel
theorem dX9_sweetenUntold_21 : decode cX9_sweetenUntold 21 = .ok (.iinc 1 1, 3) := by decide +kernel
theorem dX9_sweetenUntold_24 : decode cX9_sweetenUntold 24 = .ok (.goto (-22), 3) := by decide +kernel
theorem dX9_sweetenUntold_27 : decode cX9_sweetenUntold 27 = .ok (.return_, 1) := by decide +kernel
theorem dX9_prepare_0 : decode cX9_prepare 0 = .ok (.iconst 0, 1) := by decide +kernel
theorem dX9_prepare_1 : decode cX9_prepare 1 = .ok (.istore_n 1, 1) := by decide +kernel
theorem dX9_prepare_2 : decode cX9_prepare 2 = .ok (.iload_n 1, 1) := by decide +kernel
theorem dX9_prepare_3 : decode cX9_prepare 3 = .ok (.aload_n 0, 1) := by decide +kernel
theorem dX9_prepare_4 : decode cX9_prepare 4 = .ok (.getfield 49, 3) := by decide +kernel
theorem dX9_prepare_7 : decode cX9_prepare 7 = .ok (.if_icmp .ge 25, 3) := by decide +kernel
theorem dX9_prepare_32 : decode cX9_prepare 32 = .ok (.iconst 0, 1) := by decide +kernel
theorem dX9_prepare_33 : decode cX9_prepare 33 = .ok (.istore_n 1, 1) := by decide +kernel
theorem dX9_prepare_34 : decode cX9_prepare 34 = .ok (.iload_n 1, 1) := by decide +kernel
theorem dX9_prepare_35 : decode cX9_prepare 35 = .ok (.aload_n 0, 1) := by decide +kernel
theorem dX9_prepare_36 : decode cX9_prepare 36 = .ok (.getfield 53, 3) := by decide +kernel
theorem dX9_prepare_39 : decode cX9_prepare 39 = .ok (.if_icmp .ge 39, 3) := by decide +kernel
theorem dX9_prepare_78 : decode cX9_prepare 78 = .ok (.return_, 1) := by decide +kernel
theorem dX6_readTown_0 : decode cX6_readTown 0 = .ok (.aload_n 0, 1) := by decide +kernel
theorem dX6_readTown_1 : decode cX6_readTown 1 = .ok (.getfield 28, 3) := by decide +kernel
theorem dX6_readTown_4 : decode cX6_readTown 4 = .ok (.invokevirtual 32, 3) := by decide +kernel
theorem dX6_readTown_7 : decode cX6_readTown 7 = .ok (.aload_n 0, 1) := by decide +kernel
theorem dX6_readTown_8 : decode cX6_readTown 8 = .ok (.invokevirtual 37, 3) := by decide +kernel
theorem dX6_readTown_11 : decode cX6_readTown 11 = .ok (.iconst 1, 1) := by decide +kernel
theorem dX6_readTown_12 : decode cX6_readTown 12 = .ok (.istore_n 1, 1) := by decide +kernel
theorem dX6_readTown_13 : decode cX6_readTown 13 = .ok (.iconst 0, 1) := by decide +kernel
theorem dX6_readTown_14 : decode cX6_readTown 14 = .ok (.istore_n 2, 1) := by decide +kernel
theorem dX6_readTown_15 : decode cX6_readTown 15 = .ok (.iload_n 2, 1) := by decide +kernel
theorem dX6_readTown_16 : decode cX6_readTown 16 = .ok (.sipush 1700, 3) := by decide +kernel
theorem dX6_readTown_19 : decode cX6_readTown 19 = .ok (.if_icmp .ge 80, 3) := by decide +kernel
theorem dX6_readTown_22 : decode cX6_readTown 22 = .ok (.iload_n 1, 1) := by decide +kernel
theorem dX6_readTown_23 : decode cX6_readTown 23 = .ok (.ifCond .eq 76, 3) := by decide +kernel
theorem dX6_readTown_26 : decode cX6_readTown 26 = .ok (.aload_n 0, 1) := by decide +kernel
theorem dX6_readTown_27 : decode cX6_readTown 27 = .ok (.getfield 40, 3) := by decide +kernel
theorem dX6_readTown_30 : decode cX6_readTown 30 = .ok (.bipush 17, 2) := by decide +kernel
theorem dX6_readTown_32 : decode cX6_readTown 32 = .ok (.if_icmp .eq 67, 3) := by decide +kernel
theorem dX6_readTown_99 : decode cX6_readTown 99 = .ok (.aload_n 0, 1) := by decide +kernel
theorem dX6_readTown_100 : decode cX6_readTown 100 = .ok (.getfield 56, 3) := by decide +kernel
theorem dX6_readTown_103 : decode cX6_readTown 103 = .ok (.ifCond .ne 10, 3) := by decide +kernel
theorem dX6_readTown_106 : decode cX6_readTown 106 = .ok (.aload_n 0, 1) := by decide +kernel
theorem dX6_readTown_107 : decode cX6_readTown 107 = .ok (.getfield 28, 3) := by decide +kernel
theorem dX6_readTown_110 : decode cX6_readTown 110 = .ok (.invokevirtual 60, 3) := by decide +kernel
theorem dX6_readTown_113 : decode cX6_readTown 113 = .ok (.iload_n 1, 1) := by decide +kernel
theorem dX6_readTown_114 : decode cX6_readTown 114 = .ok (.ireturn, 1) := by decide +kernel
set_option maxHeartbeats 4000000 in
set_option maxRecDepth 100000 in
theorem c_hasLock (l : Launch) (G : va_G) (cy : Nat → ClassId) (sz : Nat) (h : Nat) (t : Int32) (v0 : Value) (v1 : Value) (v2 : Value) (v3 : Value) (v4 : Value) (v6 : Value) (v7 : Value) (v8 : Value)  : Met l yX9_hasLock (.code yX9_hasLock cX9_hasLock 2 (some .boolean) :: TBg) ({ frames := 1, cells := 0, slots := 0, locals := 64 }) (va_Pc [.ref h, .int t] (En G cy [(h, .inr (9, [v0, v1, v2, v3, v4, .int 0, v6, v7, v8]))] sz)) (va_Qi (fun (r : Int32) (_ : Unit) => r = 0 ∧ True) (fun _ _ => True) (va_A [] sz)) 0 0 (va_A [] sz) := by
  refine Met.ofW (cc := cX9_hasLock) (maxL := 2) (ret := (some .boolean)) (by decide) rfl ?_
  intro p e s m args below meth c s₁ B hml hv
  obtain ⟨rfl, hsz, hP, hK, hD0, hN⟩ := hv
  have hx := B.exec
  have hb := B.bytes
  have hr := B.returns
  have hts := atoms_spec (ws := .code yX9_hasLock cX9_hasLock 2 (some .boolean) :: TBg) B.pre
  have ht : ∀ w ∈ TBg, w.before _ s = true := fun w h => hts w (List.mem_cons_of_mem _ h)
  have hown : s.vm.findClass RX9 = some m.cls := findClass_of_methodNamed B.named
  have hlocks := B.notSynchronized
  subst hsz
  generalize hAe : va_A [] s.heap.size = A at ⊢
  have hA : ∀ q : Nat, s.heap.size ≤ q → A q := fun q h => by rw [← hAe]; exact Or.inr h
  have hS : va_S A s.heap s.heap [] := va_S.rf
  have hl := lv_entry ([.ref h, .int t]) (n := 2) (Nat.le_of_ble_eq_true rfl)
  rw [lg_entry_eq]
  generalize (lg_sl ([.ref h, .int t]) ++ List.replicate (2 - (lg_sl ([.ref h, .int t])).length) Slot.unset).toArray = ls at hl ⊢
  have hl : lv_has ls 2 [(0, .ref h), (1, .int t)] := hl
  refine lv_iload_n hx hb dX9_hasLock_0 rfl (lv_at hl 1 rfl) ?_
  refine lv_if_lt (tgt := 16) hx hb dX9_hasLock_1 (by decide) (fun c_1 => ?_) (fun c_1 => ?_)
  · skip
    refine lv_iconst (v := 0) hx hb dX9_hasLock_16 (by decide) ?_
    refine W.widen (k := 0) (n := 0) (Nat.le_of_ble_eq_true rfl) (Nat.le_of_ble_eq_true rfl) ?_
    exact W.zret (v := 0) hx hb hr (by first | rfl | decide) (fun t ht9 hW => ⟨⟨0, (), rfl, ⟨rfl, trivial⟩, trivial⟩, hS.F ht9⟩) hS.2.2 dX9_hasLock_17
  · skip
    refine lv_iload_n hx hb dX9_hasLock_4 rfl (lv_at hl 1 rfl) ?_
    refine lv_aload_n hx hb dX9_hasLock_5 rfl (lv_at hl 0 rfl) ?_
    refine va_get (ci := 9) (v := .int 0) (C := RX9) (T := TX9) (N := 9) hx hb ht iX9 hown hK hP 0 rfl rfl 5 (by decide) (ht _ k_118) (fun _ h9 => h9) rfl dX9_hasLock_6 ?_
    refine lv_icmp_ge (tgt := 16) hx hb dX9_hasLock_9 (by decide) (fun c_2 => ?_) (fun c_2 => ?_)
    · skip
      refine lv_iconst (v := 0) hx hb dX9_hasLock_16 (by decide) ?_
      refine W.widen (k := 0) (n := 0) (Nat.le_of_ble_eq_true rfl) (Nat.le_of_ble_eq_true rfl) ?_
      exact W.zret (v := 0) hx hb hr (by first | rfl | decide) (fun t ht9 hW => ⟨⟨0, (), rfl, ⟨rfl, trivial⟩, trivial⟩, hS.F ht9⟩) hS.2.2 dX9_hasLock_17
    · exfalso
      have z0 : (0 : Int32).toInt = 0 := (by decide); (try simp only [ow_lt, ow_le, ow_eq, true_and, and_true] at c_1 c_2); omega
set_option maxHeartbeats 4000000 in
set_option maxRecDepth 100000 in
theorem c_put0 (l : Launch) (G : va_G) (cy : Nat → ClassId) (sz : Nat) (x : Nat) (n : Int32) (tp : Nat) (f : Nat → Int32) (v2 : Value) (v3 : Value) (v4 : Value) (v5 : Value) (v6 : Value) (v7 : Value) (v8 : Value) (v9 : Value) (v10 : Value) (v11 : Value) (v12 : Value) (v13 : Value)  : Met l yX11_putNumber (.code yX11_putNumber cX11_putNumber 3 none :: TBg) ({ frames := 1, cells := 0, slots := 0, locals := 64 }) (va_Pc [.ref x, .int n] (En G cy [(x, .inr (11, [.ref tp, .int 0, v2, v3, v4, v5, v6, v7, v8, v9, v10, v11, v12, v13])), (tp, .inl (cy 1, 1700, .inl f))] sz)) (va_Qv (fun u : Nat → Nat → Int32 => True) (fun u t => Ex G (va_A [(x, .inr (11, [.ref tp, .int 0, v2, v3, v4, v5, v6, v7, v8, v9, v10, v11, v12, v13])), (tp, .inl (cy 1, 1700, .inl f))] sz) [(x, .inr (11, [.ref tp, .int 4, v2, v3, v4, v5, v6, v7, v8, v9, v10, v11, v12, v13])), (tp, .inl (cy 1, 1700, .inl (u 0)))] t) (va_A [(x, .inr (11, [.ref tp, .int 0, v2, v3, v4, v5, v6, v7, v8, v9, v10, v11, v12, v13])), (tp, .inl (cy 1, 1700, .inl f))] sz)) 0 0 (va_A [(x, .inr (11, [.ref tp, .int 0, v2, v3, v4, v5, v6, v7, v8, v9, v10, v11, v12, v13])), (tp, .inl (cy 1, 1700, .inl f))] sz) := by
  refine Met.ofW (cc := cX11_putNumber) (maxL := 3) (ret := none) (by decide) rfl ?_
  intro p e s m args below meth c s₁ B hml hv
  obtain ⟨rfl, hsz, hP, hK, hD0, hN⟩ := hv
  have hx := B.exec
  have hb := B.bytes
  have hr := B.returns
  have hts := atoms_spec (ws := .code yX11_putNumber cX11_putNumber 3 none :: TBg) B.pre
  have ht : ∀ w ∈ TBg, w.before _ s = true := fun w h => hts w (List.mem_cons_of_mem _ h)
  have hown : s.vm.findClass RX11 = some m.cls := findClass_of_methodNamed B.named
  have hlocks := B.notSynchronized
  subst hsz
  have hD := hD0.self (sz := s.heap.size)
  generalize hAe : va_A [(x, .inr (11, [.ref tp, .int 0, v2, v3, v4, v5, v6, v7, v8, v9, v10, v11, v12, v13])), (tp, .inl (cy 1, 1700, .inl f))] s.heap.size = A at hD ⊢
  have hA : ∀ q : Nat, s.heap.size ≤ q → A q := fun q h => by rw [← hAe]; exact Or.inr h
  have hS : va_S A s.heap s.heap [] := va_S.rf
  have hl := lv_entry ([.ref x, .int n]) (n := 3) (Nat.le_of_ble_eq_true rfl)
  rw [lg_entry_eq]
  generalize (lg_sl ([.ref x, .int n]) ++ List.replicate (3 - (lg_sl ([.ref x, .int n])).length) Slot.unset).toArray = ls at hl ⊢
  have hl : lv_has ls 3 [(0, .ref x), (1, .int n)] := hl
  refine lv_bipush (v := 24) hx hb dX11_putNumber_0 (by decide) ?_
  refine lv_istore_n (lv' := [(2, .int 24), (0, .ref x), (1, .int n)]) hx hb dX11_putNumber_2 rfl hl (by decide) rfl (fun ls hl => ?_)
  refine lv_iload_n hx hb dX11_putNumber_3 rfl (lv_at hl 0 rfl) ?_
  refine lv_if_lt (tgt := 48) hx hb dX11_putNumber_4 (by decide) (fun c9 => absurd c9 (by decide)) (fun _ => ?_)
  refine lv_aload_n hx hb dX11_putNumber_7 rfl (lv_at hl 1 rfl) ?_
  refine va_get (ci := 11) (v := .int 0) (C := RX11) (T := TX11) (N := 14) hx hb ht iX11 hown hK hP 0 rfl rfl 1 (by decide) (ht _ k_119) (fun _ h9 => h9) rfl dX11_putNumber_8 ?_
  refine lv_aload_n hx hb dX11_putNumber_11 rfl (lv_at hl 1 rfl) ?_
  refine va_get (ci := 11) (v := .ref tp) (C := RX11) (T := TX11) (N := 14) hx hb ht iX11 hown hK hP 0 rfl rfl 0 (by decide) (ht _ k_75) (fun _ h9 => h9) rfl dX11_putNumber_12 ?_
  refine va_alen (v := 1700) hx hb hK hP 1 1 rfl rfl rfl dX11_putNumber_15 ?_
  refine lv_icmp_ge (tgt := 42) hx hb dX11_putNumber_16 (by decide) (fun c9 => absurd c9 (by decide)) (fun _ => ?_)
  refine lv_aload_n hx hb dX11_putNumber_19 rfl (lv_at hl 1 rfl) ?_
  refine va_get (ci := 11) (v := .ref tp) (C := RX11) (T := TX11) (N := 14) hx hb ht iX11 hown hK hP 0 rfl rfl 0 (by decide) (ht _ k_75) (fun _ h9 => h9) rfl dX11_putNumber_20 ?_
  refine lv_aload_n hx hb dX11_putNumber_23 rfl (lv_at hl 1 rfl) ?_
  refine va_get (ci := 11) (v := .int 0) (C := RX11) (T := TX11) (N := 14) hx hb ht iX11 hown hK hP 0 rfl rfl 1 (by decide) (ht _ k_119) (fun _ h9 => h9) rfl dX11_putNumber_24 ?_
  refine lv_iload_n hx hb dX11_putNumber_27 rfl (lv_at hl 2 rfl) ?_
  refine lv_iload_n hx hb dX11_putNumber_28 rfl (lv_at hl 0 rfl) ?_
  refine lv_ishr hx hb dX11_putNumber_29 ?_
  refine lv_topi (fun v_1 ev_1 => ?_)
  refine lv_i2b hx hb dX11_putNumber_30 rfl ?_
  refine lv_topi (fun v_2 ev_2 => ?_)
  refine ow_bast hx hb hK hP hD hS 1 rfl (in_lit (by decide +kernel)) dX11_putNumber_31 (fun f_3 H locs hP hD hS => ?_)
  have hP : va_P G vwCl [(x, .inr (11, [.ref tp, .int 0, v2, v3, v4, v5, v6, v7, v8, v9, v10, v11, v12, v13])), (tp, .inl (cy 1, 1700, .inl f_3))] H := hP
  have hD : va_D A [(x, .inr (11, [.ref tp, .int 0, v2, v3, v4, v5, v6, v7, v8, v9, v10, v11, v12, v13])), (tp, .inl (cy 1, 1700, .inl f_3))] := hD
  refine lv_aload_n hx hb dX11_putNumber_32 rfl (lv_at hl 1 rfl) ?_
  refine lv_dup hx hb dX11_putNumber_33 rfl ?_
  refine va_get (ci := 11) (v := .int 0) (C := RX11) (T := TX11) (N := 14) hx hb ht iX11 hown hK hP 0 rfl rfl 1 (by decide) (ht _ k_119) (fun _ h9 => h9) rfl dX11_putNumber_34 ?_
  refine lv_iconst (v := 1) hx hb dX11_putNumber_37 (by decide) ?_
  refine lv_iadd hx hb dX11_putNumber_38 ?_
  refine ow_top 1 (by decide +kernel) ?_
  refine va_put (ci := 11) (v := .int 1) (ty := .int) (C := RX11) (T := TX11) (N := 14) hx hb ht iX11 tyX11 tyX11_ok nmX11 hown hK hP hD hS 0 rfl rfl 1 (by decide) (ht _ k_119) (fun _ h9 => h9) rfl (by decide +kernel) rfl rfl (Nat.le_of_ble_eq_true rfl) dX11_putNumber_39 (fun H locs hP hD hS => ?_)
  have hP : va_P G vwCl [(x, .inr (11, [.ref tp, .int 1, v2, v3, v4, v5, v6, v7, v8, v9, v10, v11, v12, v13])), (tp, .inl (cy 1, 1700, .inl f_3))] H := hP
  have hD : va_D A [(x, .inr (11, [.ref tp, .int 1, v2, v3, v4, v5, v6, v7, v8, v9, v10, v11, v12, v13])), (tp, .inl (cy 1, 1700, .inl f_3))] := hD
  refine lv_iinc (v := 16) (lv' := [(2, .int 16), (0, .ref x), (1, .int n)]) hx hb dX11_putNumber_42 hl (k := 0) rfl (by decide) (by decide) rfl (fun ls hl => ?_)
  refine lv_goto (tgt := 3) hx hb dX11_putNumber_45 (by decide) ?_
  refine lv_iload_n hx hb dX11_putNumber_3 rfl (lv_at hl 0 rfl) ?_
  refine lv_if_lt (tgt := 48) hx hb dX11_putNumber_4 (by decide) (fun c9 => absurd c9 (by decide)) (fun _ => ?_)
  refine lv_aload_n hx hb dX11_putNumber_7 rfl (lv_at hl 1 rfl) ?_
  refine va_get (ci := 11) (v := .int 1) (C := RX11) (T := TX11) (N := 14) hx hb ht iX11 hown hK hP 0 rfl rfl 1 (by decide) (ht _ k_119) (fun _ h9 => h9) rfl dX11_putNumber_8 ?_
  refine lv_aload_n hx hb dX11_putNumber_11 rfl (lv_at hl 1 rfl) ?_
  refine va_get (ci := 11) (v := .ref tp) (C := RX11) (T := TX11) (N := 14) hx hb ht iX11 hown hK hP 0 rfl rfl 0 (by decide) (ht _ k_75) (fun _ h9 => h9) rfl dX11_putNumber_12 ?_
  refine va_alen (v := 1700) hx hb hK hP 1 1 rfl rfl rfl dX11_putNumber_15 ?_
  refine lv_icmp_ge (tgt := 42) hx hb dX11_putNumber_16 (by decide) (fun c9 => absurd c9 (by decide)) (fun _ => ?_)
  refine lv_aload_n hx hb dX11_putNumber_19 rfl (lv_at hl 1 rfl) ?_
  refine va_get (ci := 11) (v := .ref tp) (C := RX11) (T := TX11) (N := 14) hx hb ht iX11 hown hK hP 0 rfl rfl 0 (by decide) (ht _ k_75) (fun _ h9 => h9) rfl dX11_putNumber_20 ?_
  refine lv_aload_n hx hb dX11_putNumber_23 rfl (lv_at hl 1 rfl) ?_
  refine va_get (ci := 11) (v := .int 1) (C := RX11) (T := TX11) (N := 14) hx hb ht iX11 hown hK hP 0 rfl rfl 1 (by decide) (ht _ k_119) (fun _ h9 => h9) rfl dX11_putNumber_24 ?_
  refine lv_iload_n hx hb dX11_putNumber_27 rfl (lv_at hl 2 rfl) ?_
  refine lv_iload_n hx hb dX11_putNumber_28 rfl (lv_at hl 0 rfl) ?_
  refine lv_ishr hx hb dX11_putNumber_29 ?_
  refine lv_topi (fun v_4 ev_4 => ?_)
  refine lv_i2b hx hb dX11_putNumber_30 rfl ?_
  refine lv_topi (fun v_5 ev_5 => ?_)
  refine ow_bast hx hb hK hP hD hS 1 rfl (in_lit (by decide +kernel)) dX11_putNumber_31 (fun f_6 H locs hP hD hS => ?_)
  have hP : va_P G vwCl [(x, .inr (11, [.ref tp, .int 1, v2, v3, v4, v5, v6, v7, v8, v9, v10, v11, v12, v13])), (tp, .inl (cy 1, 1700, .inl f_6))] H := hP
  have hD : va_D A [(x, .inr (11, [.ref tp, .int 1, v2, v3, v4, v5, v6, v7, v8, v9, v10, v11, v12, v13])), (tp, .inl (cy 1, 1700, .inl f_6))] := hD
  refine lv_aload_n hx hb dX11_putNumber_32 rfl (lv_at hl 1 rfl) ?_
  refine lv_dup hx hb dX11_putNumber_33 rfl ?_
  refine va_get (ci := 11) (v := .int 1) (C := RX11) (T := TX11) (N := 14) hx hb ht iX11 hown hK hP 0 rfl rfl 1 (by decide) (ht _ k_119) (fun _ h9 => h9) rfl dX11_putNumber_34 ?_
  refine lv_iconst (v := 1) hx hb dX11_putNumber_37 (by decide) ?_
  refine lv_iadd hx hb dX11_putNumber_38 ?_
  refine ow_top 2 (by decide +kernel) ?_
  refine va_put (ci := 11) (v := .int 2) (ty := .int) (C := RX11) (T := TX11) (N := 14) hx hb ht iX11 tyX11 tyX11_ok nmX11 hown hK hP hD hS 0 rfl rfl 1 (by decide) (ht _ k_119) (fun _ h9 => h9) rfl (by decide +kernel) rfl rfl (Nat.le_of_ble_eq_true rfl) dX11_putNumber_39 (fun H locs hP hD hS => ?_)
  have hP : va_P G vwCl [(x, .inr (11, [.ref tp, .int 2, v2, v3, v4, v5, v6, v7, v8, v9, v10, v11, v12, v13])), (tp, .inl (cy 1, 1700, .inl f_6))] H := hP
  have hD : va_D A [(x, .inr (11, [.ref tp, .int 2, v2, v3, v4, v5, v6, v7, v8, v9, v10, v11, v12, v13])), (tp, .inl (cy 1, 1700, .inl f_6))] := hD
  refine lv_iinc (v := 8) (lv' := [(2, .int 8), (0, .ref x), (1, .int n)]) hx hb dX11_putNumber_42 hl (k := 0) rfl (by decide) (by decide) rfl (fun ls hl => ?_)
  refine lv_goto (tgt := 3) hx hb dX11_putNumber_45 (by decide) ?_
  refine lv_iload_n hx hb dX11_putNumber_3 rfl (lv_at hl 0 rfl) ?_
  refine lv_if_lt (tgt := 48) hx hb dX11_putNumber_4 (by decide) (fun c9 => absurd c9 (by decide)) (fun _ => ?_)
  refine lv_aload_n hx hb dX11_putNumber_7 rfl (lv_at hl 1 rfl) ?_
  refine va_get (ci := 11) (v := .int 2) (C := RX11) (T := TX11) (N := 14) hx hb ht iX11 hown hK hP 0 rfl rfl 1 (by decide) (ht _ k_119) (fun _ h9 => h9) rfl dX11_putNumber_8 ?_
  refine lv_aload_n hx hb dX11_putNumber_11 rfl (lv_at hl 1 rfl) ?_
  refine va_get (ci := 11) (v := .ref tp) (C := RX11) (T := TX11) (N := 14) hx hb ht iX11 hown hK hP 0 rfl rfl 0 (by decide) (ht _ k_75) (fun _ h9 => h9) rfl dX11_putNumber_12 ?_
  refine va_alen (v := 1700) hx hb hK hP 1 1 rfl rfl rfl dX11_putNumber_15 ?_
  refine lv_icmp_ge (tgt := 42) hx hb dX11_putNumber_16 (by decide) (fun c9 => absurd c9 (by decide)) (fun _ => ?_)
  refine lv_aload_n hx hb dX11_putNumber_19 rfl (lv_at hl 1 rfl) ?_
  refine va_get (ci := 11) (v := .ref tp) (C := RX11) (T := TX11) (N := 14) hx hb ht iX11 hown hK hP 0 rfl rfl 0 (by decide) (ht _ k_75) (fun _ h9 => h9) rfl dX11_putNumber_20 ?_
  refine lv_aload_n hx hb dX11_putNumber_23 rfl (lv_at hl 1 rfl) ?_
  refine va_get (ci := 11) (v := .int 2) (C := RX11) (T := TX11) (N := 14) hx hb ht iX11 hown hK hP 0 rfl rfl 1 (by decide) (ht _ k_119) (fun _ h9 => h9) rfl dX11_putNumber_24 ?_
  refine lv_iload_n hx hb dX11_putNumber_27 rfl (lv_at hl 2 rfl) ?_
  refine lv_iload_n hx hb dX11_putNumber_28 rfl (lv_at hl 0 rfl) ?_
  refine lv_ishr hx hb dX11_putNumber_29 ?_
  refine lv_topi (fun v_7 ev_7 => ?_)
  refine lv_i2b hx hb dX11_putNumber_30 rfl ?_
  refine lv_topi (fun v_8 ev_8 => ?_)
  refine ow_bast hx hb hK hP hD hS 1 rfl (in_lit (by decide +kernel)) dX11_putNumber_31 (fun f_9 H locs hP hD hS => ?_)
  have hP : va_P G vwCl [(x, .inr (11, [.ref tp, .int 2, v2, v3, v4, v5, v6, v7, v8, v9, v10, v11, v12, v13])), (tp, .inl (cy 1, 1700, .inl f_9))] H := hP
  have hD : va_D A [(x, .inr (11, [.ref tp, .int 2, v2, v3, v4, v5, v6, v7, v8, v9, v10, v11, v12, v13])), (tp, .inl (cy 1, 1700, .inl f_9))] := hD
  refine lv_aload_n hx hb dX11_putNumber_32 rfl (lv_at hl 1 rfl) ?_
  refine lv_dup hx hb dX11_putNumber_33 rfl ?_
  refine va_get (ci := 11) (v := .int 2) (C := RX11) (T := TX11) (N := 14) hx hb ht iX11 hown hK hP 0 rfl rfl 1 (by decide) (ht _ k_119) (fun _ h9 => h9) rfl dX11_putNumber_34 ?_
  refine lv_iconst (v := 1) hx hb dX11_putNumber_37 (by decide) ?_
  refine lv_iadd hx hb dX11_putNumber_38 ?_
  refine ow_top 3 (by decide +kernel) ?_
  refine va_put (ci := 11) (v := .int 3) (ty := .int) (C := RX11) (T := TX11) (N := 14) hx hb ht iX11 tyX11 tyX11_ok nmX11 hown hK hP hD hS 0 rfl rfl 1 (by decide) (ht _ k_119) (fun _ h9 => h9) rfl (by decide +kernel) rfl rfl (Nat.le_of_ble_eq_true rfl) dX11_putNumber_39 (fun H locs hP hD hS => ?_)
  have hP : va_P G vwCl [(x, .inr (11, [.ref tp, .int 3, v2, v3, v4, v5, v6, v7, v8, v9, v10, v11, v12, v13])), (tp, .inl (cy 1, 1700, .inl f_9))] H := hP
  have hD : va_D A [(x, .inr (11, [.ref tp, .int 3, v2, v3, v4, v5, v6, v7, v8, v9, v10, v11, v12, v13])), (tp, .inl (cy 1, 1700, .inl f_9))] := hD
  refine lv_iinc (v := 0) (lv' := [(2, .int 0), (0, .ref x), (1, .int n)]) hx hb dX11_putNumber_42 hl (k := 0) rfl (by decide) (by decide) rfl (fun ls hl => ?_)
  refine lv_goto (tgt := 3) hx hb dX11_putNumber_45 (by decide) ?_
  refine lv_iload_n hx hb dX11_putNumber_3 rfl (lv_at hl 0 rfl) ?_
  refine lv_if_lt (tgt := 48) hx hb dX11_putNumber_4 (by decide) (fun c9 => absurd c9 (by decide)) (fun _ => ?_)
  refine lv_aload_n hx hb dX11_putNumber_7 rfl (lv_at hl 1 rfl) ?_
  refine va_get (ci := 11) (v := .int 3) (C := RX11) (T := TX11) (N := 14) hx hb ht iX11 hown hK hP 0 rfl rfl 1 (by decide) (ht _ k_119) (fun _ h9 => h9) rfl dX11_putNumber_8 ?_
  refine lv_aload_n hx hb dX11_putNumber_11 rfl (lv_at hl 1 rfl) ?_
  refine va_get (ci := 11) (v := .ref tp) (C := RX11) (T := TX11) (N := 14) hx hb ht iX11 hown hK hP 0 rfl rfl 0 (by decide) (ht _ k_75) (fun _ h9 => h9) rfl dX11_putNumber_12 ?_
  refine va_alen (v := 1700) hx hb hK hP 1 1 rfl rfl rfl dX11_putNumber_15 ?_
  refine lv_icmp_ge (tgt := 42) hx hb dX11_putNumber_16 (by decide) (fun c9 => absurd c9 (by decide)) (fun _ => ?_)
  refine lv_aload_n hx hb dX11_putNumber_19 rfl (lv_at hl 1 rfl) ?_
  refine va_get (ci := 11) (v := .ref tp) (C := RX11) (T := TX11) (N := 14) hx hb ht iX11 hown hK hP 0 rfl rfl 0 (by decide) (ht _ k_75) (fun _ h9 => h9) rfl dX11_putNumber_20 ?_
  refine lv_aload_n hx hb dX11_putNumber_23 rfl (lv_at hl 1 rfl) ?_
  refine va_get (ci := 11) (v := .int 3) (C := RX11) (T := TX11) (N := 14) hx hb ht iX11 hown hK hP 0 rfl rfl 1 (by decide) (ht _ k_119) (fun _ h9 => h9) rfl dX11_putNumber_24 ?_
  refine lv_iload_n hx hb dX11_putNumber_27 rfl (lv_at hl 2 rfl) ?_
  refine lv_iload_n hx hb dX11_putNumber_28 rfl (lv_at hl 0 rfl) ?_
  refine lv_ishr hx hb dX11_putNumber_29 ?_
  refine lv_topi (fun v_10 ev_10 => ?_)
  refine lv_i2b hx hb dX11_putNumber_30 rfl ?_
  refine lv_topi (fun v_11 ev_11 => ?_)
  refine ow_bast hx hb hK hP hD hS 1 rfl (in_lit (by decide +kernel)) dX11_putNumber_31 (fun f_12 H locs hP hD hS => ?_)
  have hP : va_P G vwCl [(x, .inr (11, [.ref tp, .int 3, v2, v3, v4, v5, v6, v7, v8, v9, v10, v11, v12, v13])), (tp, .inl (cy 1, 1700, .inl f_12))] H := hP
  have hD : va_D A [(x, .inr (11, [.ref tp, .int 3, v2, v3, v4, v5, v6, v7, v8, v9, v10, v11, v12, v13])), (tp, .inl (cy 1, 1700, .inl f_12))] := hD
  refine lv_aload_n hx hb dX11_putNumber_32 rfl (lv_at hl 1 rfl) ?_
  refine lv_dup hx hb dX11_putNumber_33 rfl ?_
  refine va_get (ci := 11) (v := .int 3) (C := RX11) (T := TX11) (N := 14) hx hb ht iX11 hown hK hP 0 rfl rfl 1 (by decide) (ht _ k_119) (fun _ h9 => h9) rfl dX11_putNumber_34 ?_
  refine lv_iconst (v := 1) hx hb dX11_putNumber_37 (by decide) ?_
  refine lv_iadd hx hb dX11_putNumber_38 ?_
  refine ow_top 4 (by decide +kernel) ?_
  refine va_put (ci := 11) (v := .int 4) (ty := .int) (C := RX11) (T := TX11) (N := 14) hx hb ht iX11 tyX11 tyX11_ok nmX11 hown hK hP hD hS 0 rfl rfl 1 (by decide) (ht _ k_119) (fun _ h9 => h9) rfl (by decide +kernel) rfl rfl (Nat.le_of_ble_eq_true rfl) dX11_putNumber_39 (fun H locs hP hD hS => ?_)
  have hP : va_P G vwCl [(x, .inr (11, [.ref tp, .int 4, v2, v3, v4, v5, v6, v7, v8, v9, v10, v11, v12, v13])), (tp, .inl (cy 1, 1700, .inl f_12))] H := hP
  have hD : va_D A [(x, .inr (11, [.ref tp, .int 4, v2, v3, v4, v5, v6, v7, v8, v9, v10, v11, v12, v13])), (tp, .inl (cy 1, 1700, .inl f_12))] := hD
  refine lv_iinc (v := (-8)) (lv' := [(2, .int (-8)), (0, .ref x), (1, .int n)]) hx hb dX11_putNumber_42 hl (k := 0) rfl (by decide) (by decide) rfl (fun ls hl => ?_)
  refine lv_goto (tgt := 3) hx hb dX11_putNumber_45 (by decide) ?_
  refine lv_iload_n hx hb dX11_putNumber_3 rfl (lv_at hl 0 rfl) ?_
  refine lv_if_lt (tgt := 48) hx hb dX11_putNumber_4 (by decide) (fun _ => ?_) (fun c9 => absurd (by decide) c9)
  refine W.widen (k := 0) (n := 0) (Nat.le_of_ble_eq_true rfl) (Nat.le_of_ble_eq_true rfl) ?_
  have hP9 : va_P G vwCl [(x, .inr (11, [.ref tp, .int 4, v2, v3, v4, v5, v6, v7, v8, v9, v10, v11, v12, v13])), (tp, .inl (cy 1, 1700, .inl ((lsf [f_12]) 0)))] _ := hP.sub [0, 1] rfl
  have hD9 : va_D A [(x, .inr (11, [.ref tp, .int 4, v2, v3, v4, v5, v6, v7, v8, v9, v10, v11, v12, v13])), (tp, .inl (cy 1, 1700, .inl ((lsf [f_12]) 0)))] := hD.sub [0, 1] (by decide) rfl
  exact W.vret hx hb hr (fun t ht9 hW => ⟨⟨(lsf [f_12]), rfl, trivial, ⟨by rw [ht9]; exact hP9, hD9⟩⟩, hS.F ht9⟩) hS.2.2 dX11_putNumber_48
set_option maxHeartbeats 4000000 in
set_option maxRecDepth 100000 in
theorem c_put4 (l : Launch) (G : va_G) (cy : Nat → ClassId) (sz : Nat) (x : Nat) (n : Int32) (tp : Nat) (f : Nat → Int32) (v2 : Value) (v3 : Value) (v4 : Value) (v5 : Value) (v6 : Value) (v7 : Value) (v8 : Value) (v9 : Value) (v10 : Value) (v11 : Value) (v12 : Value) (v13 : Value)  : Met l yX11_putNumber (.code yX11_putNumber cX11_putNumber 3 none :: TBg) ({ frames := 1, cells := 0, slots := 0, locals := 64 }) (va_Pc [.ref x, .int n] (En G cy [(x, .inr (11, [.ref tp, .int 4, v2, v3, v4, v5, v6, v7, v8, v9, v10, v11, v12, v13])), (tp, .inl (cy 1, 1700, .inl f))] sz)) (va_Qv (fun u : Nat → Nat → Int32 => True) (fun u t => Ex G (va_A [(x, .inr (11, [.ref tp, .int 4, v2, v3, v4, v5, v6, v7, v8, v9, v10, v11, v12, v13])), (tp, .inl (cy 1, 1700, .inl f))] sz) [(x, .inr (11, [.ref tp, .int 8, v2, v3, v4, v5, v6, v7, v8, v9, v10, v11, v12, v13])), (tp, .inl (cy 1, 1700, .inl (u 0)))] t) (va_A [(x, .inr (11, [.ref tp, .int 4, v2, v3, v4, v5, v6, v7, v8, v9, v10, v11, v12, v13])), (tp, .inl (cy 1, 1700, .inl f))] sz)) 0 0 (va_A [(x, .inr (11, [.ref tp, .int 4, v2, v3, v4, v5, v6, v7, v8, v9, v10, v11, v12, v13])), (tp, .inl (cy 1, 1700, .inl f))] sz) := by
  refine Met.ofW (cc := cX11_putNumber) (maxL := 3) (ret := none) (by decide) rfl ?_
  intro p e s m args below meth c s₁ B hml hv
  obtain ⟨rfl, hsz, hP, hK, hD0, hN⟩ := hv
  have hx := B.exec
  have hb := B.bytes
  have hr := B.returns
  have hts := atoms_spec (ws := .code yX11_putNumber cX11_putNumber 3 none :: TBg) B.pre
  have ht : ∀ w ∈ TBg, w.before _ s = true := fun w h => hts w (List.mem_cons_of_mem _ h)
  have hown : s.vm.findClass RX11 = some m.cls := findClass_of_methodNamed B.named
  have hlocks := B.notSynchronized
  subst hsz
  have hD := hD0.self (sz := s.heap.size)
  generalize hAe : va_A [(x, .inr (11, [.ref tp, .int 4, v2, v3, v4, v5, v6, v7, v8, v9, v10, v11, v12, v13])), (tp, .inl (cy 1, 1700, .inl f))] s.heap.size = A at hD ⊢
  have hA : ∀ q : Nat, s.heap.size ≤ q → A q := fun q h => by rw [← hAe]; exact Or.inr h
  have hS : va_S A s.heap s.heap [] := va_S.rf
  have hl := lv_entry ([.ref x, .int n]) (n := 3) (Nat.le_of_ble_eq_true rfl)
  rw [lg_entry_eq]
  generalize (lg_sl ([.ref x, .int n]) ++ List.replicate (3 - (lg_sl ([.ref x, .int n])).length) Slot.unset).toArray = ls at hl ⊢
  have hl : lv_has ls 3 [(0, .ref x), (1, .int n)] := hl
  refine lv_bipush (v := 24) hx hb dX11_putNumber_0 (by decide) ?_
  refine lv_istore_n (lv' := [(2, .int 24), (0, .ref x), (1, .int n)]) hx hb dX11_putNumber_2 rfl hl (by decide) rfl (fun ls hl => ?_)
  refine lv_iload_n hx hb dX11_putNumber_3 rfl (lv_at hl 0 rfl) ?_
  refine lv_if_lt (tgt := 48) hx hb dX11_putNumber_4 (by decide) (fun c9 => absurd c9 (by decide)) (fun _ => ?_)
  refine lv_aload_n hx hb dX11_putNumber_7 rfl (lv_at hl 1 rfl) ?_
  refine va_get (ci := 11) (v := .int 4) (C := RX11) (T := TX11) (N := 14) hx hb ht iX11 hown hK hP 0 rfl rfl 1 (by decide) (ht _ k_119) (fun _ h9 => h9) rfl dX11_putNumber_8 ?_
  refine lv_aload_n hx hb dX11_putNumber_11 rfl (lv_at hl 1 rfl) ?_
  refine va_get (ci := 11) (v := .ref tp) (C := RX11) (T := TX11) (N := 14) hx hb ht iX11 hown hK hP 0 rfl rfl 0 (by decide) (ht _ k_75) (fun _ h9 => h9) rfl dX11_putNumber_12 ?_
  refine va_alen (v := 1700) hx hb hK hP 1 1 rfl rfl rfl dX11_putNumber_15 ?_
  refine lv_icmp_ge (tgt := 42) hx hb dX11_putNumber_16 (by decide) (fun c9 => absurd c9 (by decide)) (fun _ => ?_)
  refine lv_aload_n hx hb dX11_putNumber_19 rfl (lv_at hl 1 rfl) ?_
  refine va_get (ci := 11) (v := .ref tp) (C := RX11) (T := TX11) (N := 14) hx hb ht iX11 hown hK hP 0 rfl rfl 0 (by decide) (ht _ k_75) (fun _ h9 => h9) rfl dX11_putNumber_20 ?_
  refine lv_aload_n hx hb dX11_putNumber_23 rfl (lv_at hl 1 rfl) ?_
  refine va_get (ci := 11) (v := .int 4) (C := RX11) (T := TX11) (N := 14) hx hb ht iX11 hown hK hP 0 rfl rfl 1 (by decide) (ht _ k_119) (fun _ h9 => h9) rfl dX11_putNumber_24 ?_
  refine lv_iload_n hx hb dX11_putNumber_27 rfl (lv_at hl 2 rfl) ?_
  refine lv_iload_n hx hb dX11_putNumber_28 rfl (lv_at hl 0 rfl) ?_
  refine lv_ishr hx hb dX11_putNumber_29 ?_
  refine lv_topi (fun v_1 ev_1 => ?_)
  refine lv_i2b hx hb dX11_putNumber_30 rfl ?_
  refine lv_topi (fun v_2 ev_2 => ?_)
  refine ow_bast hx hb hK hP hD hS 1 rfl (in_lit (by decide +kernel)) dX11_putNumber_31 (fun f_3 H locs hP hD hS => ?_)
  have hP : va_P G vwCl [(x, .inr (11, [.ref tp, .int 4, v2, v3, v4, v5, v6, v7, v8, v9, v10, v11, v12, v13])), (tp, .inl (cy 1, 1700, .inl f_3))] H := hP
  have hD : va_D A [(x, .inr (11, [.ref tp, .int 4, v2, v3, v4, v5, v6, v7, v8, v9, v10, v11, v12, v13])), (tp, .inl (cy 1, 1700, .inl f_3))] := hD
  refine lv_aload_n hx hb dX11_putNumber_32 rfl (lv_at hl 1 rfl) ?_
  refine lv_dup hx hb dX11_putNumber_33 rfl ?_
  refine va_get (ci := 11) (v := .int 4) (C := RX11) (T := TX11) (N := 14) hx hb ht iX11 hown hK hP 0 rfl rfl 1 (by decide) (ht _ k_119) (fun _ h9 => h9) rfl dX11_putNumber_34 ?_
  refine lv_iconst (v := 1) hx hb dX11_putNumber_37 (by decide) ?_
  refine lv_iadd hx hb dX11_putNumber_38 ?_
  refine ow_top 5 (by decide +kernel) ?_
  refine va_put (ci := 11) (v := .int 5) (ty := .int) (C := RX11) (T := TX11) (N := 14) hx hb ht iX11 tyX11 tyX11_ok nmX11 hown hK hP hD hS 0 rfl rfl 1 (by decide) (ht _ k_119) (fun _ h9 => h9) rfl (by decide +kernel) rfl rfl (Nat.le_of_ble_eq_true rfl) dX11_putNumber_39 (fun H locs hP hD hS => ?_)
  have hP : va_P G vwCl [(x, .inr (11, [.ref tp, .int 5, v2, v3, v4, v5, v6, v7, v8, v9, v10, v11, v12, v13])), (tp, .inl (cy 1, 1700, .inl f_3))] H := hP
  have hD : va_D A [(x, .inr (11, [.ref tp, .int 5, v2, v3, v4, v5, v6, v7, v8, v9, v10, v11, v12, v13])), (tp, .inl (cy 1, 1700, .inl f_3))] := hD
  refine lv_iinc (v := 16) (lv' := [(2, .int 16), (0, .ref x), (1, .int n)]) hx hb dX11_putNumber_42 hl (k := 0) rfl (by decide) (by decide) rfl (fun ls hl => ?_)
  refine lv_goto (tgt := 3) hx hb dX11_putNumber_45 (by decide) ?_
  refine lv_iload_n hx hb dX11_putNumber_3 rfl (lv_at hl 0 rfl) ?_
  refine lv_if_lt (tgt := 48) hx hb dX11_putNumber_4 (by decide) (fun c9 => absurd c9 (by decide)) (fun _ => ?_)
  refine lv_aload_n hx hb dX11_putNumber_7 rfl (lv_at hl 1 rfl) ?_
  refine va_get (ci := 11) (v := .int 5) (C := RX11) (T := TX11) (N := 14) hx hb ht iX11 hown hK hP 0 rfl rfl 1 (by decide) (ht _ k_119) (fun _ h9 => h9) rfl dX11_putNumber_8 ?_
  refine lv_aload_n hx hb dX11_putNumber_11 rfl (lv_at hl 1 rfl) ?_
  refine va_get (ci := 11) (v := .ref tp) (C := RX11) (T := TX11) (N := 14) hx hb ht iX11 hown hK hP 0 rfl rfl 0 (by decide) (ht _ k_75) (fun _ h9 => h9) rfl dX11_putNumber_12 ?_
  refine va_alen (v := 1700) hx hb hK hP 1 1 rfl rfl rfl dX11_putNumber_15 ?_
  refine lv_icmp_ge (tgt := 42) hx hb dX11_putNumber_16 (by decide) (fun c9 => absurd c9 (by decide)) (fun _ => ?_)
  refine lv_aload_n hx hb dX11_putNumber_19 rfl (lv_at hl 1 rfl) ?_
  refine va_get (ci := 11) (v := .ref tp) (C := RX11) (T := TX11) (N := 14) hx hb ht iX11 hown hK hP 0 rfl rfl 0 (by decide) (ht _ k_75) (fun _ h9 => h9) rfl dX11_putNumber_20 ?_
  refine lv_aload_n hx hb dX11_putNumber_23 rfl (lv_at hl 1 rfl) ?_
  refine va_get (ci := 11) (v := .int 5) (C := RX11) (T := TX11) (N := 14) hx hb ht iX11 hown hK hP 0 rfl rfl 1 (by decide) (ht _ k_119) (fun _ h9 => h9) rfl dX11_putNumber_24 ?_
  refine lv_iload_n hx hb dX11_putNumber_27 rfl (lv_at hl 2 rfl) ?_
  refine lv_iload_n hx hb dX11_putNumber_28 rfl (lv_at hl 0 rfl) ?_
  refine lv_ishr hx hb dX11_putNumber_29 ?_
  refine lv_topi (fun v_4 ev_4 => ?_)
  refine lv_i2b hx hb dX11_putNumber_30 rfl ?_
  refine lv_topi (fun v_5 ev_5 => ?_)
  refine ow_bast hx hb hK hP hD hS 1 rfl (in_lit (by decide +kernel)) dX11_putNumber_31 (fun f_6 H locs hP hD hS => ?_)
  have hP : va_P G vwCl [(x, .inr (11, [.ref tp, .int 5, v2, v3, v4, v5, v6, v7, v8, v9, v10, v11, v12, v13])), (tp, .inl (cy 1, 1700, .inl f_6))] H := hP
  have hD : va_D A [(x, .inr (11, [.ref tp, .int 5, v2, v3, v4, v5, v6, v7, v8, v9, v10, v11, v12, v13])), (tp, .inl (cy 1, 1700, .inl f_6))] := hD
  refine lv_aload_n hx hb dX11_putNumber_32 rfl (lv_at hl 1 rfl) ?_
  refine lv_dup hx hb dX11_putNumber_33 rfl ?_
  refine va_get (ci := 11) (v := .int 5) (C := RX11) (T := TX11) (N := 14) hx hb ht iX11 hown hK hP 0 rfl rfl 1 (by decide) (ht _ k_119) (fun _ h9 => h9) rfl dX11_putNumber_34 ?_
  refine lv_iconst (v := 1) hx hb dX11_putNumber_37 (by decide) ?_
  refine lv_iadd hx hb dX11_putNumber_38 ?_
  refine ow_top 6 (by decide +kernel) ?_
  refine va_put (ci := 11) (v := .int 6) (ty := .int) (C := RX11) (T := TX11) (N := 14) hx hb ht iX11 tyX11 tyX11_ok nmX11 hown hK hP hD hS 0 rfl rfl 1 (by decide) (ht _ k_119) (fun _ h9 => h9) rfl (by decide +kernel) rfl rfl (Nat.le_of_ble_eq_true rfl) dX11_putNumber_39 (fun H locs hP hD hS => ?_)
  have hP : va_P G vwCl [(x, .inr (11, [.ref tp, .int 6, v2, v3, v4, v5, v6, v7, v8, v9, v10, v11, v12, v13])), (tp, .inl (cy 1, 1700, .inl f_6))] H := hP
  have hD : va_D A [(x, .inr (11, [.ref tp, .int 6, v2, v3, v4, v5, v6, v7, v8, v9, v10, v11, v12, v13])), (tp, .inl (cy 1, 1700, .inl f_6))] := hD
  refine lv_iinc (v := 8) (lv' := [(2, .int 8), (0, .ref x), (1, .int n)]) hx hb dX11_putNumber_42 hl (k := 0) rfl (by decide) (by decide) rfl (fun ls hl => ?_)
  refine lv_goto (tgt := 3) hx hb dX11_putNumber_45 (by decide) ?_
  refine lv_iload_n hx hb dX11_putNumber_3 rfl (lv_at hl 0 rfl) ?_
  refine lv_if_lt (tgt := 48) hx hb dX11_putNumber_4 (by decide) (fun c9 => absurd c9 (by decide)) (fun _ => ?_)
  refine lv_aload_n hx hb dX11_putNumber_7 rfl (lv_at hl 1 rfl) ?_
  refine va_get (ci := 11) (v := .int 6) (C := RX11) (T := TX11) (N := 14) hx hb ht iX11 hown hK hP 0 rfl rfl 1 (by decide) (ht _ k_119) (fun _ h9 => h9) rfl dX11_putNumber_8 ?_
  refine lv_aload_n hx hb dX11_putNumber_11 rfl (lv_at hl 1 rfl) ?_
  refine va_get (ci := 11) (v := .ref tp) (C := RX11) (T := TX11) (N := 14) hx hb ht iX11 hown hK hP 0 rfl rfl 0 (by decide) (ht _ k_75) (fun _ h9 => h9) rfl dX11_putNumber_12 ?_
  refine va_alen (v := 1700) hx hb hK hP 1 1 rfl rfl rfl dX11_putNumber_15 ?_
  refine lv_icmp_ge (tgt := 42) hx hb dX11_putNumber_16 (by decide) (fun c9 => absurd c9 (by decide)) (fun _ => ?_)
  refine lv_aload_n hx hb dX11_putNumber_19 rfl (lv_at hl 1 rfl) ?_
  refine va_get (ci := 11) (v := .ref tp) (C := RX11) (T := TX11) (N := 14) hx hb ht iX11 hown hK hP 0 rfl rfl 0 (by decide) (ht _ k_75) (fun _ h9 => h9) rfl dX11_putNumber_20 ?_
  refine lv_aload_n hx hb dX11_putNumber_23 rfl (lv_at hl 1 rfl) ?_
  refine va_get (ci := 11) (v := .int 6) (C := RX11) (T := TX11) (N := 14) hx hb ht iX11 hown hK hP 0 rfl rfl 1 (by decide) (ht _ k_119) (fun _ h9 => h9) rfl dX11_putNumber_24 ?_
  refine lv_iload_n hx hb dX11_putNumber_27 rfl (lv_at hl 2 rfl) ?_
  refine lv_iload_n hx hb dX11_putNumber_28 rfl (lv_at hl 0 rfl) ?_
  refine lv_ishr hx hb dX11_putNumber_29 ?_
  refine lv_topi (fun v_7 ev_7 => ?_)
  refine lv_i2b hx hb dX11_putNumber_30 rfl ?_
  refine lv_topi (fun v_8 ev_8 => ?_)
  refine ow_bast hx hb hK hP hD hS 1 rfl (in_lit (by decide +kernel)) dX11_putNumber_31 (fun f_9 H locs hP hD hS => ?_)
  have hP : va_P G vwCl [(x, .inr (11, [.ref tp, .int 6, v2, v3, v4, v5, v6, v7, v8, v9, v10, v11, v12, v13])), (tp, .inl (cy 1, 1700, .inl f_9))] H := hP
  have hD : va_D A [(x, .inr (11, [.ref tp, .int 6, v2, v3, v4, v5, v6, v7, v8, v9, v10, v11, v12, v13])), (tp, .inl (cy 1, 1700, .inl f_9))] := hD
  refine lv_aload_n hx hb dX11_putNumber_32 rfl (lv_at hl 1 rfl) ?_
  refine lv_dup hx hb dX11_putNumber_33 rfl ?_
  refine va_get (ci := 11) (v := .int 6) (C := RX11) (T := TX11) (N := 14) hx hb ht iX11 hown hK hP 0 rfl rfl 1 (by decide) (ht _ k_119) (fun _ h9 => h9) rfl dX11_putNumber_34 ?_
  refine lv_iconst (v := 1) hx hb dX11_putNumber_37 (by decide) ?_
  refine lv_iadd hx hb dX11_putNumber_38 ?_
  refine ow_top 7 (by decide +kernel) ?_
  refine va_put (ci := 11) (v := .int 7) (ty := .int) (C := RX11) (T := TX11) (N := 14) hx hb ht iX11 tyX11 tyX11_ok nmX11 hown hK hP hD hS 0 rfl rfl 1 (by decide) (ht _ k_119) (fun _ h9 => h9) rfl (by decide +kernel) rfl rfl (Nat.le_of_ble_eq_true rfl) dX11_putNumber_39 (fun H locs hP hD hS => ?_)
  have hP : va_P G vwCl [(x, .inr (11, [.ref tp, .int 7, v2, v3, v4, v5, v6, v7, v8, v9, v10, v11, v12, v13])), (tp, .inl (cy 1, 1700, .inl f_9))] H := hP
  have hD : va_D A [(x, .inr (11, [.ref tp, .int 7, v2, v3, v4, v5, v6, v7, v8, v9, v10, v11, v12, v13])), (tp, .inl (cy 1, 1700, .inl f_9))] := hD
  refine lv_iinc (v := 0) (lv' := [(2, .int 0), (0, .ref x), (1, .int n)]) hx hb dX11_putNumber_42 hl (k := 0) rfl (by decide) (by decide) rfl (fun ls hl => ?_)
  refine lv_goto (tgt := 3) hx hb dX11_putNumber_45 (by decide) ?_
  refine lv_iload_n hx hb dX11_putNumber_3 rfl (lv_at hl 0 rfl) ?_
  refine lv_if_lt (tgt := 48) hx hb dX11_putNumber_4 (by decide) (fun c9 => absurd c9 (by decide)) (fun _ => ?_)
  refine lv_aload_n hx hb dX11_putNumber_7 rfl (lv_at hl 1 rfl) ?_
  refine va_get (ci := 11) (v := .int 7) (C := RX11) (T := TX11) (N := 14) hx hb ht iX11 hown hK hP 0 rfl rfl 1 (by decide) (ht _ k_119) (fun _ h9 => h9) rfl dX11_putNumber_8 ?_
  refine lv_aload_n hx hb dX11_putNumber_11 rfl (lv_at hl 1 rfl) ?_
  refine va_get (ci := 11) (v := .ref tp) (C := RX11) (T := TX11) (N := 14) hx hb ht iX11 hown hK hP 0 rfl rfl 0 (by decide) (ht _ k_75) (fun _ h9 => h9) rfl dX11_putNumber_12 ?_
  refine va_alen (v := 1700) hx hb hK hP 1 1 rfl rfl rfl dX11_putNumber_15 ?_
  refine lv_icmp_ge (tgt := 42) hx hb dX11_putNumber_16 (by decide) (fun c9 => absurd c9 (by decide)) (fun _ => ?_)
  refine lv_aload_n hx hb dX11_putNumber_19 rfl (lv_at hl 1 rfl) ?_
  refine va_get (ci := 11) (v := .ref tp) (C := RX11) (T := TX11) (N := 14) hx hb ht iX11 hown hK hP 0 rfl rfl 0 (by decide) (ht _ k_75) (fun _ h9 => h9) rfl dX11_putNumber_20 ?_
  refine lv_aload_n hx hb dX11_putNumber_23 rfl (lv_at hl 1 rfl) ?_
  refine va_get (ci := 11) (v := .int 7) (C := RX11) (T := TX11) (N := 14) hx hb ht iX11 hown hK hP 0 rfl rfl 1 (by decide) (ht _ k_119) (fun _ h9 => h9) rfl dX11_putNumber_24 ?_
  refine lv_iload_n hx hb dX11_putNumber_27 rfl (lv_at hl 2 rfl) ?_
  refine lv_iload_n hx hb dX11_putNumber_28 rfl (lv_at hl 0 rfl) ?_
  refine lv_ishr hx hb dX11_putNumber_29 ?_
  refine lv_topi (fun v_10 ev_10 => ?_)
  refine lv_i2b hx hb dX11_putNumber_30 rfl ?_
  refine lv_topi (fun v_11 ev_11 => ?_)
  refine ow_bast hx hb hK hP hD hS 1 rfl (in_lit (by decide +kernel)) dX11_putNumber_31 (fun f_12 H locs hP hD hS => ?_)
  have hP : va_P G vwCl [(x, .inr (11, [.ref tp, .int 7, v2, v3, v4, v5, v6, v7, v8, v9, v10, v11, v12, v13])), (tp, .inl (cy 1, 1700, .inl f_12))] H := hP
  have hD : va_D A [(x, .inr (11, [.ref tp, .int 7, v2, v3, v4, v5, v6, v7, v8, v9, v10, v11, v12, v13])), (tp, .inl (cy 1, 1700, .inl f_12))] := hD
  refine lv_aload_n hx hb dX11_putNumber_32 rfl (lv_at hl 1 rfl) ?_
  refine lv_dup hx hb dX11_putNumber_33 rfl ?_
  refine va_get (ci := 11) (v := .int 7) (C := RX11) (T := TX11) (N := 14) hx hb ht iX11 hown hK hP 0 rfl rfl 1 (by decide) (ht _ k_119) (fun _ h9 => h9) rfl dX11_putNumber_34 ?_
  refine lv_iconst (v := 1) hx hb dX11_putNumber_37 (by decide) ?_
  refine lv_iadd hx hb dX11_putNumber_38 ?_
  refine ow_top 8 (by decide +kernel) ?_
  refine va_put (ci := 11) (v := .int 8) (ty := .int) (C := RX11) (T := TX11) (N := 14) hx hb ht iX11 tyX11 tyX11_ok nmX11 hown hK hP hD hS 0 rfl rfl 1 (by decide) (ht _ k_119) (fun _ h9 => h9) rfl (by decide +kernel) rfl rfl (Nat.le_of_ble_eq_true rfl) dX11_putNumber_39 (fun H locs hP hD hS => ?_)
  have hP : va_P G vwCl [(x, .inr (11, [.ref tp, .int 8, v2, v3, v4, v5, v6, v7, v8, v9, v10, v11, v12, v13])), (tp, .inl (cy 1, 1700, .inl f_12))] H := hP
  have hD : va_D A [(x, .inr (11, [.ref tp, .int 8, v2, v3, v4, v5, v6, v7, v8, v9, v10, v11, v12, v13])), (tp, .inl (cy 1, 1700, .inl f_12))] := hD
  refine lv_iinc (v := (-8)) (lv' := [(2, .int (-8)), (0, .ref x), (1, .int n)]) hx hb dX11_putNumber_42 hl (k := 0) rfl (by decide) (by decide) rfl (fun ls hl => ?_)
  refine lv_goto (tgt := 3) hx hb dX11_putNumber_45 (by decide) ?_
  refine lv_iload_n hx hb dX11_putNumber_3 rfl (lv_at hl 0 rfl) ?_
  refine lv_if_lt (tgt := 48) hx hb dX11_putNumber_4 (by decide) (fun _ => ?_) (fun c9 => absurd (by decide) c9)
  refine W.widen (k := 0) (n := 0) (Nat.le_of_ble_eq_true rfl) (Nat.le_of_ble_eq_true rfl) ?_
  have hP9 : va_P G vwCl [(x, .inr (11, [.ref tp, .int 8, v2, v3, v4, v5, v6, v7, v8, v9, v10, v11, v12, v13])), (tp, .inl (cy 1, 1700, .inl ((lsf [f_12]) 0)))] _ := hP.sub [0, 1] rfl
  have hD9 : va_D A [(x, .inr (11, [.ref tp, .int 8, v2, v3, v4, v5, v6, v7, v8, v9, v10, v11, v12, v13])), (tp, .inl (cy 1, 1700, .inl ((lsf [f_12]) 0)))] := hD.sub [0, 1] (by decide) rfl
  exact W.vret hx hb hr (fun t ht9 hW => ⟨⟨(lsf [f_12]), rfl, trivial, ⟨by rw [ht9]; exact hP9, hD9⟩⟩, hS.F ht9⟩) hS.2.2 dX11_putNumber_48
set_option maxHeartbeats 4000000 in
set_option maxRecDepth 100000 in
theorem c_put8 (l : Launch) (G : va_G) (cy : Nat → ClassId) (sz : Nat) (x : Nat) (n : Int32) (tp : Nat) (f : Nat → Int32) (v2 : Value) (v3 : Value) (v4 : Value) (v5 : Value) (v6 : Value) (v7 : Value) (v8 : Value) (v9 : Value) (v10 : Value) (v11 : Value) (v12 : Value) (v13 : Value)  : Met l yX11_putNumber (.code yX11_putNumber cX11_putNumber 3 none :: TBg) ({ frames := 1, cells := 0, slots := 0, locals := 64 }) (va_Pc [.ref x, .int n] (En G cy [(x, .inr (11, [.ref tp, .int 8, v2, v3, v4, v5, v6, v7, v8, v9, v10, v11, v12, v13])), (tp, .inl (cy 1, 1700, .inl f))] sz)) (va_Qv (fun u : Nat → Nat → Int32 => True) (fun u t => Ex G (va_A [(x, .inr (11, [.ref tp, .int 8, v2, v3, v4, v5, v6, v7, v8, v9, v10, v11, v12, v13])), (tp, .inl (cy 1, 1700, .inl f))] sz) [(x, .inr (11, [.ref tp, .int 12, v2, v3, v4, v5, v6, v7, v8, v9, v10, v11, v12, v13])), (tp, .inl (cy 1, 1700, .inl (u 0)))] t) (va_A [(x, .inr (11, [.ref tp, .int 8, v2, v3, v4, v5, v6, v7, v8, v9, v10, v11, v12, v13])), (tp, .inl (cy 1, 1700, .inl f))] sz)) 0 0 (va_A [(x, .inr (11, [.ref tp, .int 8, v2, v3, v4, v5, v6, v7, v8, v9, v10, v11, v12, v13])), (tp, .inl (cy 1, 1700, .inl f))] sz) := by
  refine Met.ofW (cc := cX11_putNumber) (maxL := 3) (ret := none) (by decide) rfl ?_
  intro p e s m args below meth c s₁ B hml hv
  obtain ⟨rfl, hsz, hP, hK, hD0, hN⟩ := hv
  have hx := B.exec
  have hb := B.bytes
  have hr := B.returns
  have hts := atoms_spec (ws := .code yX11_putNumber cX11_putNumber 3 none :: TBg) B.pre
  have ht : ∀ w ∈ TBg, w.before _ s = true := fun w h => hts w (List.mem_cons_of_mem _ h)
  have hown : s.vm.findClass RX11 = some m.cls := findClass_of_methodNamed B.named
  have hlocks := B.notSynchronized
  subst hsz
  have hD := hD0.self (sz := s.heap.size)
  generalize hAe : va_A [(x, .inr (11, [.ref tp, .int 8, v2, v3, v4, v5, v6, v7, v8, v9, v10, v11, v12, v13])), (tp, .inl (cy 1, 1700, .inl f))] s.heap.size = A at hD ⊢
  have hA : ∀ q : Nat, s.heap.size ≤ q → A q := fun q h => by rw [← hAe]; exact Or.inr h
  have hS : va_S A s.heap s.heap [] := va_S.rf
  have hl := lv_entry ([.ref x, .int n]) (n := 3) (Nat.le_of_ble_eq_true rfl)
  rw [lg_entry_eq]
  generalize (lg_sl ([.ref x, .int n]) ++ List.replicate (3 - (lg_sl ([.ref x, .int n])).length) Slot.unset).toArray = ls at hl ⊢
  have hl : lv_has ls 3 [(0, .ref x), (1, .int n)] := hl
  refine lv_bipush (v := 24) hx hb dX11_putNumber_0 (by decide) ?_
  refine lv_istore_n (lv' := [(2, .int 24), (0, .ref x), (1, .int n)]) hx hb dX11_putNumber_2 rfl hl (by decide) rfl (fun ls hl => ?_)
  refine lv_iload_n hx hb dX11_putNumber_3 rfl (lv_at hl 0 rfl) ?_
  refine lv_if_lt (tgt := 48) hx hb dX11_putNumber_4 (by decide) (fun c9 => absurd c9 (by decide)) (fun _ => ?_)
  refine lv_aload_n hx hb dX11_putNumber_7 rfl (lv_at hl 1 rfl) ?_
  refine va_get (ci := 11) (v := .int 8) (C := RX11) (T := TX11) (N := 14) hx hb ht iX11 hown hK hP 0 rfl rfl 1 (by decide) (ht _ k_119) (fun _ h9 => h9) rfl dX11_putNumber_8 ?_
  refine lv_aload_n hx hb dX11_putNumber_11 rfl (lv_at hl 1 rfl) ?_
  refine va_get (ci := 11) (v := .ref tp) (C := RX11) (T := TX11) (N := 14) hx hb ht iX11 hown hK hP 0 rfl rfl 0 (by decide) (ht _ k_75) (fun _ h9 => h9) rfl dX11_putNumber_12 ?_
  refine va_alen (v := 1700) hx hb hK hP 1 1 rfl rfl rfl dX11_putNumber_15 ?_
  refine lv_icmp_ge (tgt := 42) hx hb dX11_putNumber_16 (by decide) (fun c9 => absurd c9 (by decide)) (fun _ => ?_)
  refine lv_aload_n hx hb dX11_putNumber_19 rfl (lv_at hl 1 rfl) ?_
  refine va_get (ci := 11) (v := .ref tp) (C := RX11) (T := TX11) (N := 14) hx hb ht iX11 hown hK hP 0 rfl rfl 0 (by decide) (ht _ k_75) (fun _ h9 => h9) rfl dX11_putNumber_20 ?_
  refine lv_aload_n hx hb dX11_putNumber_23 rfl (lv_at hl 1 rfl) ?_
  refine va_get (ci := 11) (v := .int 8) (C := RX11) (T := TX11) (N := 14) hx hb ht iX11 hown hK hP 0 rfl rfl 1 (by decide) (ht _ k_119) (fun _ h9 => h9) rfl dX11_putNumber_24 ?_
  refine lv_iload_n hx hb dX11_putNumber_27 rfl (lv_at hl 2 rfl) ?_
  refine lv_iload_n hx hb dX11_putNumber_28 rfl (lv_at hl 0 rfl) ?_
  refine lv_ishr hx hb dX11_putNumber_29 ?_
  refine lv_topi (fun v_1 ev_1 => ?_)
  refine lv_i2b hx hb dX11_putNumber_30 rfl ?_
  refine lv_topi (fun v_2 ev_2 => ?_)
  refine ow_bast hx hb hK hP hD hS 1 rfl (in_lit (by decide +kernel)) dX11_putNumber_31 (fun f_3 H locs hP hD hS => ?_)
  have hP : va_P G vwCl [(x, .inr (11, [.ref tp, .int 8, v2, v3, v4, v5, v6, v7, v8, v9, v10, v11, v12, v13])), (tp, .inl (cy 1, 1700, .inl f_3))] H := hP
  have hD : va_D A [(x, .inr (11, [.ref tp, .int 8, v2, v3, v4, v5, v6, v7, v8, v9, v10, v11, v12, v13])), (tp, .inl (cy 1, 1700, .inl f_3))] := hD
  refine lv_aload_n hx hb dX11_putNumber_32 rfl (lv_at hl 1 rfl) ?_
  refine lv_dup hx hb dX11_putNumber_33 rfl ?_
  refine va_get (ci := 11) (v := .int 8) (C := RX11) (T := TX11) (N := 14) hx hb ht iX11 hown hK hP 0 rfl rfl 1 (by decide) (ht _ k_119) (fun _ h9 => h9) rfl dX11_putNumber_34 ?_
  refine lv_iconst (v := 1) hx hb dX11_putNumber_37 (by decide) ?_
  refine lv_iadd hx hb dX11_putNumber_38 ?_
  refine ow_top 9 (by decide +kernel) ?_
  refine va_put (ci := 11) (v := .int 9) (ty := .int) (C := RX11) (T := TX11) (N := 14) hx hb ht iX11 tyX11 tyX11_ok nmX11 hown hK hP hD hS 0 rfl rfl 1 (by decide) (ht _ k_119) (fun _ h9 => h9) rfl (by decide +kernel) rfl rfl (Nat.le_of_ble_eq_true rfl) dX11_putNumber_39 (fun H locs hP hD hS => ?_)
  have hP : va_P G vwCl [(x, .inr (11, [.ref tp, .int 9, v2, v3, v4, v5, v6, v7, v8, v9, v10, v11, v12, v13])), (tp, .inl (cy 1, 1700, .inl f_3))] H := hP
  have hD : va_D A [(x, .inr (11, [.ref tp, .int 9, v2, v3, v4, v5, v6, v7, v8, v9, v10, v11, v12, v13])), (tp, .inl (cy 1, 1700, .inl f_3))] := hD
  refine lv_iinc (v := 16) (lv' := [(2, .int 16), (0, .ref x), (1, .int n)]) hx hb dX11_putNumber_42 hl (k := 0) rfl (by decide) (by decide) rfl (fun ls hl => ?_)
  refine lv_goto (tgt := 3) hx hb dX11_putNumber_45 (by decide) ?_
  refine lv_iload_n hx hb dX11_putNumber_3 rfl (lv_at hl 0 rfl) ?_
  refine lv_if_lt (tgt := 48) hx hb dX11_putNumber_4 (by decide) (fun c9 => absurd c9 (by decide)) (fun _ => ?_)
  refine lv_aload_n hx hb dX11_putNumber_7 rfl (lv_at hl 1 rfl) ?_
  refine va_get (ci := 11) (v := .int 9) (C := RX11) (T := TX11) (N := 14) hx hb ht iX11 hown hK hP 0 rfl rfl 1 (by decide) (ht _ k_119) (fun _ h9 => h9) rfl dX11_putNumber_8 ?_
  refine lv_aload_n hx hb dX11_putNumber_11 rfl (lv_at hl 1 rfl) ?_
  refine va_get (ci := 11) (v := .ref tp) (C := RX11) (T := TX11) (N := 14) hx hb ht iX11 hown hK hP 0 rfl rfl 0 (by decide) (ht _ k_75) (fun _ h9 => h9) rfl dX11_putNumber_12 ?_
  refine va_alen (v := 1700) hx hb hK hP 1 1 rfl rfl rfl dX11_putNumber_15 ?_
  refine lv_icmp_ge (tgt := 42) hx hb dX11_putNumber_16 (by decide) (fun c9 => absurd c9 (by decide)) (fun _ => ?_)
  refine lv_aload_n hx hb dX11_putNumber_19 rfl (lv_at hl 1 rfl) ?_
  refine va_get (ci := 11) (v := .ref tp) (C := RX11) (T := TX11) (N := 14) hx hb ht iX11 hown hK hP 0 rfl rfl 0 (by decide) (ht _ k_75) (fun _ h9 => h9) rfl dX11_putNumber_20 ?_
  refine lv_aload_n hx hb dX11_putNumber_23 rfl (lv_at hl 1 rfl) ?_
  refine va_get (ci := 11) (v := .int 9) (C := RX11) (T := TX11) (N := 14) hx hb ht iX11 hown hK hP 0 rfl rfl 1 (by decide) (ht _ k_119) (fun _ h9 => h9) rfl dX11_putNumber_24 ?_
  refine lv_iload_n hx hb dX11_putNumber_27 rfl (lv_at hl 2 rfl) ?_
  refine lv_iload_n hx hb dX11_putNumber_28 rfl (lv_at hl 0 rfl) ?_
  refine lv_ishr hx hb dX11_putNumber_29 ?_
  refine lv_topi (fun v_4 ev_4 => ?_)
  refine lv_i2b hx hb dX11_putNumber_30 rfl ?_
  refine lv_topi (fun v_5 ev_5 => ?_)
  refine ow_bast hx hb hK hP hD hS 1 rfl (in_lit (by decide +kernel)) dX11_putNumber_31 (fun f_6 H locs hP hD hS => ?_)
  have hP : va_P G vwCl [(x, .inr (11, [.ref tp, .int 9, v2, v3, v4, v5, v6, v7, v8, v9, v10, v11, v12, v13])), (tp, .inl (cy 1, 1700, .inl f_6))] H := hP
  have hD : va_D A [(x, .inr (11, [.ref tp, .int 9, v2, v3, v4, v5, v6, v7, v8, v9, v10, v11, v12, v13])), (tp, .inl (cy 1, 1700, .inl f_6))] := hD
  refine lv_aload_n hx hb dX11_putNumber_32 rfl (lv_at hl 1 rfl) ?_
  refine lv_dup hx hb dX11_putNumber_33 rfl ?_
  refine va_get (ci := 11) (v := .int 9) (C := RX11) (T := TX11) (N := 14) hx hb ht iX11 hown hK hP 0 rfl rfl 1 (by decide) (ht _ k_119) (fun _ h9 => h9) rfl dX11_putNumber_34 ?_
  refine lv_iconst (v := 1) hx hb dX11_putNumber_37 (by decide) ?_
  refine lv_iadd hx hb dX11_putNumber_38 ?_
  refine ow_top 10 (by decide +kernel) ?_
  refine va_put (ci := 11) (v := .int 10) (ty := .int) (C := RX11) (T := TX11) (N := 14) hx hb ht iX11 tyX11 tyX11_ok nmX11 hown hK hP hD hS 0 rfl rfl 1 (by decide) (ht _ k_119) (fun _ h9 => h9) rfl (by decide +kernel) rfl rfl (Nat.le_of_ble_eq_true rfl) dX11_putNumber_39 (fun H locs hP hD hS => ?_)
  have hP : va_P G vwCl [(x, .inr (11, [.ref tp, .int 10, v2, v3, v4, v5, v6, v7, v8, v9, v10, v11, v12, v13])), (tp, .inl (cy 1, 1700, .inl f_6))] H := hP
  have hD : va_D A [(x, .inr (11, [.ref tp, .int 10, v2, v3, v4, v5, v6, v7, v8, v9, v10, v11, v12, v13])), (tp, .inl (cy 1, 1700, .inl f_6))] := hD
  refine lv_iinc (v := 8) (lv' := [(2, .int 8), (0, .ref x), (1, .int n)]) hx hb dX11_putNumber_42 hl (k := 0) rfl (by decide) (by decide) rfl (fun ls hl => ?_)
  refine lv_goto (tgt := 3) hx hb dX11_putNumber_45 (by decide) ?_
  refine lv_iload_n hx hb dX11_putNumber_3 rfl (lv_at hl 0 rfl) ?_
  refine lv_if_lt (tgt := 48) hx hb dX11_putNumber_4 (by decide) (fun c9 => absurd c9 (by decide)) (fun _ => ?_)
  refine lv_aload_n hx hb dX11_putNumber_7 rfl (lv_at hl 1 rfl) ?_
  refine va_get (ci := 11) (v := .int 10) (C := RX11) (T := TX11) (N := 14) hx hb ht iX11 hown hK hP 0 rfl rfl 1 (by decide) (ht _ k_119) (fun _ h9 => h9) rfl dX11_putNumber_8 ?_
  refine lv_aload_n hx hb dX11_putNumber_11 rfl (lv_at hl 1 rfl) ?_
  refine va_get (ci := 11) (v := .ref tp) (C := RX11) (T := TX11) (N := 14) hx hb ht iX11 hown hK hP 0 rfl rfl 0 (by decide) (ht _ k_75) (fun _ h9 => h9) rfl dX11_putNumber_12 ?_
  refine va_alen (v := 1700) hx hb hK hP 1 1 rfl rfl rfl dX11_putNumber_15 ?_
  refine lv_icmp_ge (tgt := 42) hx hb dX11_putNumber_16 (by decide) (fun c9 => absurd c9 (by decide)) (fun _ => ?_)
  refine lv_aload_n hx hb dX11_putNumber_19 rfl (lv_at hl 1 rfl) ?_
  refine va_get (ci := 11) (v := .ref tp) (C := RX11) (T := TX11) (N := 14) hx hb ht iX11 hown hK hP 0 rfl rfl 0 (by decide) (ht _ k_75) (fun _ h9 => h9) rfl dX11_putNumber_20 ?_
  refine lv_aload_n hx hb dX11_putNumber_23 rfl (lv_at hl 1 rfl) ?_
  refine va_get (ci := 11) (v := .int 10) (C := RX11) (T := TX11) (N := 14) hx hb ht iX11 hown hK hP 0 rfl rfl 1 (by decide) (ht _ k_119) (fun _ h9 => h9) rfl dX11_putNumber_24 ?_
  refine lv_iload_n hx hb dX11_putNumber_27 rfl (lv_at hl 2 rfl) ?_
  refine lv_iload_n hx hb dX11_putNumber_28 rfl (lv_at hl 0 rfl) ?_
  refine lv_ishr hx hb dX11_putNumber_29 ?_
  refine lv_topi (fun v_7 ev_7 => ?_)
  refine lv_i2b hx hb dX11_putNumber_30 rfl ?_
  refine lv_topi (fun v_8 ev_8 => ?_)
  refine ow_bast hx hb hK hP hD hS 1 rfl (in_lit (by decide +kernel)) dX11_putNumber_31 (fun f_9 H locs hP hD hS => ?_)
  have hP : va_P G vwCl [(x, .inr (11, [.ref tp, .int 10, v2, v3, v4, v5, v6, v7, v8, v9, v10, v11, v12, v13])), (tp, .inl (cy 1, 1700, .inl f_9))] H := hP
  have hD : va_D A [(x, .inr (11, [.ref tp, .int 10, v2, v3, v4, v5, v6, v7, v8, v9, v10, v11, v12, v13])), (tp, .inl (cy 1, 1700, .inl f_9))] := hD
  refine lv_aload_n hx hb dX11_putNumber_32 rfl (lv_at hl 1 rfl) ?_
  refine lv_dup hx hb dX11_putNumber_33 rfl ?_
  refine va_get (ci := 11) (v := .int 10) (C := RX11) (T := TX11) (N := 14) hx hb ht iX11 hown hK hP 0 rfl rfl 1 (by decide) (ht _ k_119) (fun _ h9 => h9) rfl dX11_putNumber_34 ?_
  refine lv_iconst (v := 1) hx hb dX11_putNumber_37 (by decide) ?_
  refine lv_iadd hx hb dX11_putNumber_38 ?_
  refine ow_top 11 (by decide +kernel) ?_
  refine va_put (ci := 11) (v := .int 11) (ty := .int) (C := RX11) (T := TX11) (N := 14) hx hb ht iX11 tyX11 tyX11_ok nmX11 hown hK hP hD hS 0 rfl rfl 1 (by decide) (ht _ k_119) (fun _ h9 => h9) rfl (by decide +kernel) rfl rfl (Nat.le_of_ble_eq_true rfl) dX11_putNumber_39 (fun H locs hP hD hS => ?_)
  have hP : va_P G vwCl [(x, .inr (11, [.ref tp, .int 11, v2, v3, v4, v5, v6, v7, v8, v9, v10, v11, v12, v13])), (tp, .inl (cy 1, 1700, .inl f_9))] H := hP
  have hD : va_D A [(x, .inr (11, [.ref tp, .int 11, v2, v3, v4, v5, v6, v7, v8, v9, v10, v11, v12, v13])), (tp, .inl (cy 1, 1700, .inl f_9))] := hD
  refine lv_iinc (v := 0) (lv' := [(2, .int 0), (0, .ref x), (1, .int n)]) hx hb dX11_putNumber_42 hl (k := 0) rfl (by decide) (by decide) rfl (fun ls hl => ?_)
  refine lv_goto (tgt := 3) hx hb dX11_putNumber_45 (by decide) ?_
  refine lv_iload_n hx hb dX11_putNumber_3 rfl (lv_at hl 0 rfl) ?_
  refine lv_if_lt (tgt := 48) hx hb dX11_putNumber_4 (by decide) (fun c9 => absurd c9 (by decide)) (fun _ => ?_)
  refine lv_aload_n hx hb dX11_putNumber_7 rfl (lv_at hl 1 rfl) ?_
  refine va_get (ci := 11) (v := .int 11) (C := RX11) (T := TX11) (N := 14) hx hb ht iX11 hown hK hP 0 rfl rfl 1 (by decide) (ht _ k_119) (fun _ h9 => h9) rfl dX11_putNumber_8 ?_
  refine lv_aload_n hx hb dX11_putNumber_11 rfl (lv_at hl 1 rfl) ?_
  refine va_get (ci := 11) (v := .ref tp) (C := RX11) (T := TX11) (N := 14) hx hb ht iX11 hown hK hP 0 rfl rfl 0 (by decide) (ht _ k_75) (fun _ h9 => h9) rfl dX11_putNumber_12 ?_
  refine va_alen (v := 1700) hx hb hK hP 1 1 rfl rfl rfl dX11_putNumber_15 ?_
  refine lv_icmp_ge (tgt := 42) hx hb dX11_putNumber_16 (by decide) (fun c9 => absurd c9 (by decide)) (fun _ => ?_)
  refine lv_aload_n hx hb dX11_putNumber_19 rfl (lv_at hl 1 rfl) ?_
  refine va_get (ci := 11) (v := .ref tp) (C := RX11) (T := TX11) (N := 14) hx hb ht iX11 hown hK hP 0 rfl rfl 0 (by decide) (ht _ k_75) (fun _ h9 => h9) rfl dX11_putNumber_20 ?_
  refine lv_aload_n hx hb dX11_putNumber_23 rfl (lv_at hl 1 rfl) ?_
  refine va_get (ci := 11) (v := .int 11) (C := RX11) (T := TX11) (N := 14) hx hb ht iX11 hown hK hP 0 rfl rfl 1 (by decide) (ht _ k_119) (fun _ h9 => h9) rfl dX11_putNumber_24 ?_
  refine lv_iload_n hx hb dX11_putNumber_27 rfl (lv_at hl 2 rfl) ?_
  refine lv_iload_n hx hb dX11_putNumber_28 rfl (lv_at hl 0 rfl) ?_
  refine lv_ishr hx hb dX11_putNumber_29 ?_
  refine lv_topi (fun v_10 ev_10 => ?_)
  refine lv_i2b hx hb dX11_putNumber_30 rfl ?_
  refine lv_topi (fun v_11 ev_11 => ?_)
  refine ow_bast hx hb hK hP hD hS 1 rfl (in_lit (by decide +kernel)) dX11_putNumber_31 (fun f_12 H locs hP hD hS => ?_)
  have hP : va_P G vwCl [(x, .inr (11, [.ref tp, .int 11, v2, v3, v4, v5, v6, v7, v8, v9, v10, v11, v12, v13])), (tp, .inl (cy 1, 1700, .inl f_12))] H := hP
  have hD : va_D A [(x, .inr (11, [.ref tp, .int 11, v2, v3, v4, v5, v6, v7, v8, v9, v10, v11, v12, v13])), (tp, .inl (cy 1, 1700, .inl f_12))] := hD
  refine lv_aload_n hx hb dX11_putNumber_32 rfl (lv_at hl 1 rfl) ?_
  refine lv_dup hx hb dX11_putNumber_33 rfl ?_
  refine va_get (ci := 11) (v := .int 11) (C := RX11) (T := TX11) (N := 14) hx hb ht iX11 hown hK hP 0 rfl rfl 1 (by decide) (ht _ k_119) (fun _ h9 => h9) rfl dX11_putNumber_34 ?_
  refine lv_iconst (v := 1) hx hb dX11_putNumber_37 (by decide) ?_
  refine lv_iadd hx hb dX11_putNumber_38 ?_
  refine ow_top 12 (by decide +kernel) ?_
  refine va_put (ci := 11) (v := .int 12) (ty := .int) (C := RX11) (T := TX11) (N := 14) hx hb ht iX11 tyX11 tyX11_ok nmX11 hown hK hP hD hS 0 rfl rfl 1 (by decide) (ht _ k_119) (fun _ h9 => h9) rfl (by decide +kernel) rfl rfl (Nat.le_of_ble_eq_true rfl) dX11_putNumber_39 (fun H locs hP hD hS => ?_)
  have hP : va_P G vwCl [(x, .inr (11, [.ref tp, .int 12, v2, v3, v4, v5, v6, v7, v8, v9, v10, v11, v12, v13])), (tp, .inl (cy 1, 1700, .inl f_12))] H := hP
  have hD : va_D A [(x, .inr (11, [.ref tp, .int 12, v2, v3, v4, v5, v6, v7, v8, v9, v10, v11, v12, v13])), (tp, .inl (cy 1, 1700, .inl f_12))] := hD
  refine lv_iinc (v := (-8)) (lv' := [(2, .int (-8)), (0, .ref x), (1, .int n)]) hx hb dX11_putNumber_42 hl (k := 0) rfl (by decide) (by decide) rfl (fun ls hl => ?_)
  refine lv_goto (tgt := 3) hx hb dX11_putNumber_45 (by decide) ?_
  refine lv_iload_n hx hb dX11_putNumber_3 rfl (lv_at hl 0 rfl) ?_
  refine lv_if_lt (tgt := 48) hx hb dX11_putNumber_4 (by decide) (fun _ => ?_) (fun c9 => absurd (by decide) c9)
  refine W.widen (k := 0) (n := 0) (Nat.le_of_ble_eq_true rfl) (Nat.le_of_ble_eq_true rfl) ?_
  have hP9 : va_P G vwCl [(x, .inr (11, [.ref tp, .int 12, v2, v3, v4, v5, v6, v7, v8, v9, v10, v11, v12, v13])), (tp, .inl (cy 1, 1700, .inl ((lsf [f_12]) 0)))] _ := hP.sub [0, 1] rfl
  have hD9 : va_D A [(x, .inr (11, [.ref tp, .int 12, v2, v3, v4, v5, v6, v7, v8, v9, v10, v11, v12, v13])), (tp, .inl (cy 1, 1700, .inl ((lsf [f_12]) 0)))] := hD.sub [0, 1] (by decide) rfl
  exact W.vret hx hb hr (fun t ht9 hW => ⟨⟨(lsf [f_12]), rfl, trivial, ⟨by rw [ht9]; exact hP9, hD9⟩⟩, hS.F ht9⟩) hS.2.2 dX11_putNumber_48
set_option maxHeartbeats 4000000 in
set_option maxRecDepth 100000 in
theorem c_put12 (l : Launch) (G : va_G) (cy : Nat → ClassId) (sz : Nat) (x : Nat) (n : Int32) (tp : Nat) (f : Nat → Int32) (v2 : Value) (v3 : Value) (v4 : Value) (v5 : Value) (v6 : Value) (v7 : Value) (v8 : Value) (v9 : Value) (v10 : Value) (v11 : Value) (v12 : Value) (v13 : Value)  : Met l yX11_putNumber (.code yX11_putNumber cX11_putNumber 3 none :: TBg) ({ frames := 1, cells := 0, slots := 0, locals := 64 }) (va_Pc [.ref x, .int n] (En G cy [(x, .inr (11, [.ref tp, .int 12, v2, v3, v4, v5, v6, v7, v8, v9, v10, v11, v12, v13])), (tp, .inl (cy 1, 1700, .inl f))] sz)) (va_Qv (fun u : Nat → Nat → Int32 => True) (fun u t => Ex G (va_A [(x, .inr (11, [.ref tp, .int 12, v2, v3, v4, v5, v6, v7, v8, v9, v10, v11, v12, v13])), (tp, .inl (cy 1, 1700, .inl f))] sz) [(x, .inr (11, [.ref tp, .int 16, v2, v3, v4, v5, v6, v7, v8, v9, v10, v11, v12, v13])), (tp, .inl (cy 1, 1700, .inl (u 0)))] t) (va_A [(x, .inr (11, [.ref tp, .int 12, v2, v3, v4, v5, v6, v7, v8, v9, v10, v11, v12, v13])), (tp, .inl (cy 1, 1700, .inl f))] sz)) 0 0 (va_A [(x, .inr (11, [.ref tp, .int 12, v2, v3, v4, v5, v6, v7, v8, v9, v10, v11, v12, v13])), (tp, .inl (cy 1, 1700, .inl f))] sz) := by
  refine Met.ofW (cc := cX11_putNumber) (maxL := 3) (ret := none) (by decide) rfl ?_
  intro p e s m args below meth c s₁ B hml hv
  obtain ⟨rfl, hsz, hP, hK, hD0, hN⟩ := hv
  have hx := B.exec
  have hb := B.bytes
  have hr := B.returns
  have hts := atoms_spec (ws := .code yX11_putNumber cX11_putNumber 3 none :: TBg) B.pre
  have ht : ∀ w ∈ TBg, w.before _ s = true := fun w h => hts w (List.mem_cons_of_mem _ h)
  have hown : s.vm.findClass RX11 = some m.cls := findClass_of_methodNamed B.named
  have hlocks := B.notSynchronized
  subst hsz
  have hD := hD0.self (sz := s.heap.size)
  generalize hAe : va_A [(x, .inr (11, [.ref tp, .int 12, v2, v3, v4, v5, v6, v7, v8, v9, v10, v11, v12, v13])), (tp, .inl (cy 1, 1700, .inl f))] s.heap.size = A at hD ⊢
  have hA : ∀ q : Nat, s.heap.size ≤ q → A q := fun q h => by rw [← hAe]; exact Or.inr h
  have hS : va_S A s.heap s.heap [] := va_S.rf
  have hl := lv_entry ([.ref x, .int n]) (n := 3) (Nat.le_of_ble_eq_true rfl)
  rw [lg_entry_eq]
  generalize (lg_sl ([.ref x, .int n]) ++ List.replicate (3 - (lg_sl ([.ref x, .int n])).length) Slot.unset).toArray = ls at hl ⊢
  have hl : lv_has ls 3 [(0, .ref x), (1, .int n)] := hl
  refine lv_bipush (v := 24) hx hb dX11_putNumber_0 (by decide) ?_
  refine lv_istore_n (lv' := [(2, .int 24), (0, .ref x), (1, .int n)]) hx hb dX11_putNumber_2 rfl hl (by decide) rfl (fun ls hl => ?_)
  refine lv_iload_n hx hb dX11_putNumber_3 rfl (lv_at hl 0 rfl) ?_
  refine lv_if_lt (tgt := 48) hx hb dX11_putNumber_4 (by decide) (fun c9 => absurd c9 (by decide)) (fun _ => ?_)
  refine lv_aload_n hx hb dX11_putNumber_7 rfl (lv_at hl 1 rfl) ?_
  refine va_get (ci := 11) (v := .int 12) (C := RX11) (T := TX11) (N := 14) hx hb ht iX11 hown hK hP 0 rfl rfl 1 (by decide) (ht _ k_119) (fun _ h9 => h9) rfl dX11_putNumber_8 ?_
  refine lv_aload_n hx hb dX11_putNumber_11 rfl (lv_at hl 1 rfl) ?_
  refine va_get (ci := 11) (v := .ref tp) (C := RX11) (T := TX11) (N := 14) hx hb ht iX11 hown hK hP 0 rfl rfl 0 (by decide) (ht _ k_75) (fun _ h9 => h9) rfl dX11_putNumber_12 ?_
  refine va_alen (v := 1700) hx hb hK hP 1 1 rfl rfl rfl dX11_putNumber_15 ?_
  refine lv_icmp_ge (tgt := 42) hx hb dX11_putNumber_16 (by decide) (fun c9 => absurd c9 (by decide)) (fun _ => ?_)
  refine lv_aload_n hx hb dX11_putNumber_19 rfl (lv_at hl 1 rfl) ?_
  refine va_get (ci := 11) (v := .ref tp) (C := RX11) (T := TX11) (N := 14) hx hb ht iX11 hown hK hP 0 rfl rfl 0 (by decide) (ht _ k_75) (fun _ h9 => h9) rfl dX11_putNumber_20 ?_
  refine lv_aload_n hx hb dX11_putNumber_23 rfl (lv_at hl 1 rfl) ?_
  refine va_get (ci := 11) (v := .int 12) (C := RX11) (T := TX11) (N := 14) hx hb ht iX11 hown hK hP 0 rfl rfl 1 (by decide) (ht _ k_119) (fun _ h9 => h9) rfl dX11_putNumber_24 ?_
  refine lv_iload_n hx hb dX11_putNumber_27 rfl (lv_at hl 2 rfl) ?_
  refine lv_iload_n hx hb dX11_putNumber_28 rfl (lv_at hl 0 rfl) ?_
  refine lv_ishr hx hb dX11_putNumber_29 ?_
  refine lv_topi (fun v_1 ev_1 => ?_)
  refine lv_i2b hx hb dX11_putNumber_30 rfl ?_
  refine lv_topi (fun v_2 ev_2 => ?_)
  refine ow_bast hx hb hK hP hD hS 1 rfl (in_lit (by decide +kernel)) dX11_putNumber_31 (fun f_3 H locs hP hD hS => ?_)
  have hP : va_P G vwCl [(x, .inr (11, [.ref tp, .int 12, v2, v3, v4, v5, v6, v7, v8, v9, v10, v11, v12, v13])), (tp, .inl (cy 1, 1700, .inl f_3))] H := hP
  have hD : va_D A [(x, .inr (11, [.ref tp, .int 12, v2, v3, v4, v5, v6, v7, v8, v9, v10, v11, v12, v13])), (tp, .inl (cy 1, 1700, .inl f_3))] := hD
  refine lv_aload_n hx hb dX11_putNumber_32 rfl (lv_at hl 1 rfl) ?_
  refine lv_dup hx hb dX11_putNumber_33 rfl ?_
  refine va_get (ci := 11) (v := .int 12) (C := RX11) (T := TX11) (N := 14) hx hb ht iX11 hown hK hP 0 rfl rfl 1 (by decide) (ht _ k_119) (fun _ h9 => h9) rfl dX11_putNumber_34 ?_
  refine lv_iconst (v := 1) hx hb dX11_putNumber_37 (by decide) ?_
  refine lv_iadd hx hb dX11_putNumber_38 ?_
  refine ow_top 13 (by decide +kernel) ?_
  refine va_put (ci := 11) (v := .int 13) (ty := .int) (C := RX11) (T := TX11) (N := 14) hx hb ht iX11 tyX11 tyX11_ok nmX11 hown hK hP hD hS 0 rfl rfl 1 (by decide) (ht _ k_119) (fun _ h9 => h9) rfl (by decide +kernel) rfl rfl (Nat.le_of_ble_eq_true rfl) dX11_putNumber_39 (fun H locs hP hD hS => ?_)
  have hP : va_P G vwCl [(x, .inr (11, [.ref tp, .int 13, v2, v3, v4, v5, v6, v7, v8, v9, v10, v11, v12, v13])), (tp, .inl (cy 1, 1700, .inl f_3))] H := hP
  have hD : va_D A [(x, .inr (11, [.ref tp, .int 13, v2, v3, v4, v5, v6, v7, v8, v9, v10, v11, v12, v13])), (tp, .inl (cy 1, 1700, .inl f_3))] := hD
  refine lv_iinc (v := 16) (lv' := [(2, .int 16), (0, .ref x), (1, .int n)]) hx hb dX11_putNumber_42 hl (k := 0) rfl (by decide) (by decide) rfl (fun ls hl => ?_)
  refine lv_goto (tgt := 3) hx hb dX11_putNumber_45 (by decide) ?_
  refine lv_iload_n hx hb dX11_putNumber_3 rfl (lv_at hl 0 rfl) ?_
  refine lv_if_lt (tgt := 48) hx hb dX11_putNumber_4 (by decide) (fun c9 => absurd c9 (by decide)) (fun _ => ?_)
  refine lv_aload_n hx hb dX11_putNumber_7 rfl (lv_at hl 1 rfl) ?_
  refine va_get (ci := 11) (v := .int 13) (C := RX11) (T := TX11) (N := 14) hx hb ht iX11 hown hK hP 0 rfl rfl 1 (by decide) (ht _ k_119) (fun _ h9 => h9) rfl dX11_putNumber_8 ?_
  refine lv_aload_n hx hb dX11_putNumber_11 rfl (lv_at hl 1 rfl) ?_
  refine va_get (ci := 11) (v := .ref tp) (C := RX11) (T := TX11) (N := 14) hx hb ht iX11 hown hK hP 0 rfl rfl 0 (by decide) (ht _ k_75) (fun _ h9 => h9) rfl dX11_putNumber_12 ?_
  refine va_alen (v := 1700) hx hb hK hP 1 1 rfl rfl rfl dX11_putNumber_15 ?_
  refine lv_icmp_ge (tgt := 42) hx hb dX11_putNumber_16 (by decide) (fun c9 => absurd c9 (by decide)) (fun _ => ?_)
  refine lv_aload_n hx hb dX11_putNumber_19 rfl (lv_at hl 1 rfl) ?_
  refine va_get (ci := 11) (v := .ref tp) (C := RX11) (T := TX11) (N := 14) hx hb ht iX11 hown hK hP 0 rfl rfl 0 (by decide) (ht _ k_75) (fun _ h9 => h9) rfl dX11_putNumber_20 ?_
  refine lv_aload_n hx hb dX11_putNumber_23 rfl (lv_at hl 1 rfl) ?_
  refine va_get (ci := 11) (v := .int 13) (C := RX11) (T := TX11) (N := 14) hx hb ht iX11 hown hK hP 0 rfl rfl 1 (by decide) (ht _ k_119) (fun _ h9 => h9) rfl dX11_putNumber_24 ?_
  refine lv_iload_n hx hb dX11_putNumber_27 rfl (lv_at hl 2 rfl) ?_
  refine lv_iload_n hx hb dX11_putNumber_28 rfl (lv_at hl 0 rfl) ?_
  refine lv_ishr hx hb dX11_putNumber_29 ?_
  refine lv_topi (fun v_4 ev_4 => ?_)
  refine lv_i2b hx hb dX11_putNumber_30 rfl ?_
  refine lv_topi (fun v_5 ev_5 => ?_)
  refine ow_bast hx hb hK hP hD hS 1 rfl (in_lit (by decide +kernel)) dX11_putNumber_31 (fun f_6 H locs hP hD hS => ?_)
  have hP : va_P G vwCl [(x, .inr (11, [.ref tp, .int 13, v2, v3, v4, v5, v6, v7, v8, v9, v10, v11, v12, v13])), (tp, .inl (cy 1, 1700, .inl f_6))] H := hP
  have hD : va_D A [(x, .inr (11, [.ref tp, .int 13, v2, v3, v4, v5, v6, v7, v8, v9, v10, v11, v12, v13])), (tp, .inl (cy 1, 1700, .inl f_6))] := hD
  refine lv_aload_n hx hb dX11_putNumber_32 rfl (lv_at hl 1 rfl) ?_
  refine lv_dup hx hb dX11_putNumber_33 rfl ?_
  refine va_get (ci := 11) (v := .int 13) (C := RX11) (T := TX11) (N := 14) hx hb ht iX11 hown hK hP 0 rfl rfl 1 (by decide) (ht _ k_119) (fun _ h9 => h9) rfl dX11_putNumber_34 ?_
  refine lv_iconst (v := 1) hx hb dX11_putNumber_37 (by decide) ?_
  refine lv_iadd hx hb dX11_putNumber_38 ?_
  refine ow_top 14 (by decide +kernel) ?_
  refine va_put (ci := 11) (v := .int 14) (ty := .int) (C := RX11) (T := TX11) (N := 14) hx hb ht iX11 tyX11 tyX11_ok nmX11 hown hK hP hD hS 0 rfl rfl 1 (by decide) (ht _ k_119) (fun _ h9 => h9) rfl (by decide +kernel) rfl rfl (Nat.le_of_ble_eq_true rfl) dX11_putNumber_39 (fun H locs hP hD hS => ?_)
  have hP : va_P G vwCl [(x, .inr (11, [.ref tp, .int 14, v2, v3, v4, v5, v6, v7, v8, v9, v10, v11, v12, v13])), (tp, .inl (cy 1, 1700, .inl f_6))] H := hP
  have hD : va_D A [(x, .inr (11, [.ref tp, .int 14, v2, v3, v4, v5, v6, v7, v8, v9, v10, v11, v12, v13])), (tp, .inl (cy 1, 1700, .inl f_6))] := hD
  refine lv_iinc (v := 8) (lv' := [(2, .int 8), (0, .ref x), (1, .int n)]) hx hb dX11_putNumber_42 hl (k := 0) rfl (by decide) (by decide) rfl (fun ls hl => ?_)
  refine lv_goto (tgt := 3) hx hb dX11_putNumber_45 (by decide) ?_
  refine lv_iload_n hx hb dX11_putNumber_3 rfl (lv_at hl 0 rfl) ?_
  refine lv_if_lt (tgt := 48) hx hb dX11_putNumber_4 (by decide) (fun c9 => absurd c9 (by decide)) (fun _ => ?_)
  refine lv_aload_n hx hb dX11_putNumber_7 rfl (lv_at hl 1 rfl) ?_
  refine va_get (ci := 11) (v := .int 14) (C := RX11) (T := TX11) (N := 14) hx hb ht iX11 hown hK hP 0 rfl rfl 1 (by decide) (ht _ k_119) (fun _ h9 => h9) rfl dX11_putNumber_8 ?_
  refine lv_aload_n hx hb dX11_putNumber_11 rfl (lv_at hl 1 rfl) ?_
  refine va_get (ci := 11) (v := .ref tp) (C := RX11) (T := TX11) (N := 14) hx hb ht iX11 hown hK hP 0 rfl rfl 0 (by decide) (ht _ k_75) (fun _ h9 => h9) rfl dX11_putNumber_12 ?_
  refine va_alen (v := 1700) hx hb hK hP 1 1 rfl rfl rfl dX11_putNumber_15 ?_
  refine lv_icmp_ge (tgt := 42) hx hb dX11_putNumber_16 (by decide) (fun c9 => absurd c9 (by decide)) (fun _ => ?_)
  refine lv_aload_n hx hb dX11_putNumber_19 rfl (lv_at hl 1 rfl) ?_
  refine va_get (ci := 11) (v := .ref tp) (C := RX11) (T := TX11) (N := 14) hx hb ht iX11 hown hK hP 0 rfl rfl 0 (by decide) (ht _ k_75) (fun _ h9 => h9) rfl dX11_putNumber_20 ?_
  refine lv_aload_n hx hb dX11_putNumber_23 rfl (lv_at hl 1 rfl) ?_
  refine va_get (ci := 11) (v := .int 14) (C := RX11) (T := TX11) (N := 14) hx hb ht iX11 hown hK hP 0 rfl rfl 1 (by decide) (ht _ k_119) (fun _ h9 => h9) rfl dX11_putNumber_24 ?_
  refine lv_iload_n hx hb dX11_putNumber_27 rfl (lv_at hl 2 rfl) ?_
  refine lv_iload_n hx hb dX11_putNumber_28 rfl (lv_at hl 0 rfl) ?_
  refine lv_ishr hx hb dX11_putNumber_29 ?_
  refine lv_topi (fun v_7 ev_7 => ?_)
  refine lv_i2b hx hb dX11_putNumber_30 rfl ?_
  refine lv_topi (fun v_8 ev_8 => ?_)
  refine ow_bast hx hb hK hP hD hS 1 rfl (in_lit (by decide +kernel)) dX11_putNumber_31 (fun f_9 H locs hP hD hS => ?_)
  have hP : va_P G vwCl [(x, .inr (11, [.ref tp, .int 14, v2, v3, v4, v5, v6, v7, v8, v9, v10, v11, v12, v13])), (tp, .inl (cy 1, 1700, .inl f_9))] H := hP
  have hD : va_D A [(x, .inr (11, [.ref tp, .int 14, v2, v3, v4, v5, v6, v7, v8, v9, v10, v11, v12, v13])), (tp, .inl (cy 1, 1700, .inl f_9))] := hD
  refine lv_aload_n hx hb dX11_putNumber_32 rfl (lv_at hl 1 rfl) ?_
  refine lv_dup hx hb dX11_putNumber_33 rfl ?_
  refine va_get (ci := 11) (v := .int 14) (C := RX11) (T := TX11) (N := 14) hx hb ht iX11 hown hK hP 0 rfl rfl 1 (by decide) (ht _ k_119) (fun _ h9 => h9) rfl dX11_putNumber_34 ?_
  refine lv_iconst (v := 1) hx hb dX11_putNumber_37 (by decide) ?_
  refine lv_iadd hx hb dX11_putNumber_38 ?_
  refine ow_top 15 (by decide +kernel) ?_
  refine va_put (ci := 11) (v := .int 15) (ty := .int) (C := RX11) (T := TX11) (N := 14) hx hb ht iX11 tyX11 tyX11_ok nmX11 hown hK hP hD hS 0 rfl rfl 1 (by decide) (ht _ k_119) (fun _ h9 => h9) rfl (by decide +kernel) rfl rfl (Nat.le_of_ble_eq_true rfl) dX11_putNumber_39 (fun H locs hP hD hS => ?_)
  have hP : va_P G vwCl [(x, .inr (11, [.ref tp, .int 15, v2, v3, v4, v5, v6, v7, v8, v9, v10, v11, v12, v13])), (tp, .inl (cy 1, 1700, .inl f_9))] H := hP
  have hD : va_D A [(x, .inr (11, [.ref tp, .int 15, v2, v3, v4, v5, v6, v7, v8, v9, v10, v11, v12, v13])), (tp, .inl (cy 1, 1700, .inl f_9))] := hD
  refine lv_iinc (v := 0) (lv' := [(2, .int 0), (0, .ref x), (1, .int n)]) hx hb dX11_putNumber_42 hl (k := 0) rfl (by decide) (by decide) rfl (fun ls hl => ?_)
  refine lv_goto (tgt := 3) hx hb dX11_putNumber_45 (by decide) ?_
  refine lv_iload_n hx hb dX11_putNumber_3 rfl (lv_at hl 0 rfl) ?_
  refine lv_if_lt (tgt := 48) hx hb dX11_putNumber_4 (by decide) (fun c9 => absurd c9 (by decide)) (fun _ => ?_)
  refine lv_aload_n hx hb dX11_putNumber_7 rfl (lv_at hl 1 rfl) ?_
  refine va_get (ci := 11) (v := .int 15) (C := RX11) (T := TX11) (N := 14) hx hb ht iX11 hown hK hP 0 rfl rfl 1 (by decide) (ht _ k_119) (fun _ h9 => h9) rfl dX11_putNumber_8 ?_
  refine lv_aload_n hx hb dX11_putNumber_11 rfl (lv_at hl 1 rfl) ?_
  refine va_get (ci := 11) (v := .ref tp) (C := RX11) (T := TX11) (N := 14) hx hb ht iX11 hown hK hP 0 rfl rfl 0 (by decide) (ht _ k_75) (fun _ h9 => h9) rfl dX11_putNumber_12 ?_
  refine va_alen (v := 1700) hx hb hK hP 1 1 rfl rfl rfl dX11_putNumber_15 ?_
  refine lv_icmp_ge (tgt := 42) hx hb dX11_putNumber_16 (by decide) (fun c9 => absurd c9 (by decide)) (fun _ => ?_)
  refine lv_aload_n hx hb dX11_putNumber_19 rfl (lv_at hl 1 rfl) ?_
  refine va_get (ci := 11) (v := .ref tp) (C := RX11) (T := TX11) (N := 14) hx hb ht iX11 hown hK hP 0 rfl rfl 0 (by decide) (ht _ k_75) (fun _ h9 => h9) rfl dX11_putNumber_20 ?_
  refine lv_aload_n hx hb dX11_putNumber_23 rfl (lv_at hl 1 rfl) ?_
  refine va_get (ci := 11) (v := .int 15) (C := RX11) (T := TX11) (N := 14) hx hb ht iX11 hown hK hP 0 rfl rfl 1 (by decide) (ht _ k_119) (fun _ h9 => h9) rfl dX11_putNumber_24 ?_
  refine lv_iload_n hx hb dX11_putNumber_27 rfl (lv_at hl 2 rfl) ?_
  refine lv_iload_n hx hb dX11_putNumber_28 rfl (lv_at hl 0 rfl) ?_
  refine lv_ishr hx hb dX11_putNumber_29 ?_
  refine lv_topi (fun v_10 ev_10 => ?_)
  refine lv_i2b hx hb dX11_putNumber_30 rfl ?_
  refine lv_topi (fun v_11 ev_11 => ?_)
  refine ow_bast hx hb hK hP hD hS 1 rfl (in_lit (by decide +kernel)) dX11_putNumber_31 (fun f_12 H locs hP hD hS => ?_)
  have hP : va_P G vwCl [(x, .inr (11, [.ref tp, .int 15, v2, v3, v4, v5, v6, v7, v8, v9, v10, v11, v12, v13])), (tp, .inl (cy 1, 1700, .inl f_12))] H := hP
  have hD : va_D A [(x, .inr (11, [.ref tp, .int 15, v2, v3, v4, v5, v6, v7, v8, v9, v10, v11, v12, v13])), (tp, .inl (cy 1, 1700, .inl f_12))] := hD
  refine lv_aload_n hx hb dX11_putNumber_32 rfl (lv_at hl 1 rfl) ?_
  refine lv_dup hx hb dX11_putNumber_33 rfl ?_
  refine va_get (ci := 11) (v := .int 15) (C := RX11) (T := TX11) (N := 14) hx hb ht iX11 hown hK hP 0 rfl rfl 1 (by decide) (ht _ k_119) (fun _ h9 => h9) rfl dX11_putNumber_34 ?_
  refine lv_iconst (v := 1) hx hb dX11_putNumber_37 (by decide) ?_
  refine lv_iadd hx hb dX11_putNumber_38 ?_
  refine ow_top 16 (by decide +kernel) ?_
  refine va_put (ci := 11) (v := .int 16) (ty := .int) (C := RX11) (T := TX11) (N := 14) hx hb ht iX11 tyX11 tyX11_ok nmX11 hown hK hP hD hS 0 rfl rfl 1 (by decide) (ht _ k_119) (fun _ h9 => h9) rfl (by decide +kernel) rfl rfl (Nat.le_of_ble_eq_true rfl) dX11_putNumber_39 (fun H locs hP hD hS => ?_)
  have hP : va_P G vwCl [(x, .inr (11, [.ref tp, .int 16, v2, v3, v4, v5, v6, v7, v8, v9, v10, v11, v12, v13])), (tp, .inl (cy 1, 1700, .inl f_12))] H := hP
  have hD : va_D A [(x, .inr (11, [.ref tp, .int 16, v2, v3, v4, v5, v6, v7, v8, v9, v10, v11, v12, v13])), (tp, .inl (cy 1, 1700, .inl f_12))] := hD
  refine lv_iinc (v := (-8)) (lv' := [(2, .int (-8)), (0, .ref x), (1, .int n)]) hx hb dX11_putNumber_42 hl (k := 0) rfl (by decide) (by decide) rfl (fun ls hl => ?_)
  refine lv_goto (tgt := 3) hx hb dX11_putNumber_45 (by decide) ?_
  refine lv_iload_n hx hb dX11_putNumber_3 rfl (lv_at hl 0 rfl) ?_
  refine lv_if_lt (tgt := 48) hx hb dX11_putNumber_4 (by decide) (fun _ => ?_) (fun c9 => absurd (by decide) c9)
  refine W.widen (k := 0) (n := 0) (Nat.le_of_ble_eq_true rfl) (Nat.le_of_ble_eq_true rfl) ?_
  have hP9 : va_P G vwCl [(x, .inr (11, [.ref tp, .int 16, v2, v3, v4, v5, v6, v7, v8, v9, v10, v11, v12, v13])), (tp, .inl (cy 1, 1700, .inl ((lsf [f_12]) 0)))] _ := hP.sub [0, 1] rfl
  have hD9 : va_D A [(x, .inr (11, [.ref tp, .int 16, v2, v3, v4, v5, v6, v7, v8, v9, v10, v11, v12, v13])), (tp, .inl (cy 1, 1700, .inl ((lsf [f_12]) 0)))] := hD.sub [0, 1] (by decide) rfl
  exact W.vret hx hb hr (fun t ht9 hW => ⟨⟨(lsf [f_12]), rfl, trivial, ⟨by rw [ht9]; exact hP9, hD9⟩⟩, hS.F ht9⟩) hS.2.2 dX11_putNumber_48
set_option maxHeartbeats 4000000 in
set_option maxRecDepth 100000 in
theorem c_put16 (l : Launch) (G : va_G) (cy : Nat → ClassId) (sz : Nat) (x : Nat) (n : Int32) (tp : Nat) (f : Nat → Int32) (v2 : Value) (v3 : Value) (v4 : Value) (v5 : Value) (v6 : Value) (v7 : Value) (v8 : Value) (v9 : Value) (v10 : Value) (v11 : Value) (v12 : Value) (v13 : Value)  : Met l yX11_putNumber (.code yX11_putNumber cX11_putNumber 3 none :: TBg) ({ frames := 1, cells := 0, slots := 0, locals := 64 }) (va_Pc [.ref x, .int n] (En G cy [(x, .inr (11, [.ref tp, .int 16, v2, v3, v4, v5, v6, v7, v8, v9, v10, v11, v12, v13])), (tp, .inl (cy 1, 1700, .inl f))] sz)) (va_Qv (fun u : Nat → Nat → Int32 => True) (fun u t => Ex G (va_A [(x, .inr (11, [.ref tp, .int 16, v2, v3, v4, v5, v6, v7, v8, v9, v10, v11, v12, v13])), (tp, .inl (cy 1, 1700, .inl f))] sz) [(x, .inr (11, [.ref tp, .int 20, v2, v3, v4, v5, v6, v7, v8, v9, v10, v11, v12, v13])), (tp, .inl (cy 1, 1700, .inl (u 0)))] t) (va_A [(x, .inr (11, [.ref tp, .int 16, v2, v3, v4, v5, v6, v7, v8, v9, v10, v11, v12, v13])), (tp, .inl (cy 1, 1700, .inl f))] sz)) 0 0 (va_A [(x, .inr (11, [.ref tp, .int 16, v2, v3, v4, v5, v6, v7, v8, v9, v10, v11, v12, v13])), (tp, .inl (cy 1, 1700, .inl f))] sz) := by
  refine Met.ofW (cc := cX11_putNumber) (maxL := 3) (ret := none) (by decide) rfl ?_
  intro p e s m args below meth c s₁ B hml hv
  obtain ⟨rfl, hsz, hP, hK, hD0, hN⟩ := hv
  have hx := B.exec
  have hb := B.bytes
  have hr := B.returns
  have hts := atoms_spec (ws := .code yX11_putNumber cX11_putNumber 3 none :: TBg) B.pre
  have ht : ∀ w ∈ TBg, w.before _ s = true := fun w h => hts w (List.mem_cons_of_mem _ h)
  have hown : s.vm.findClass RX11 = some m.cls := findClass_of_methodNamed B.named
  have hlocks := B.notSynchronized
  subst hsz
  have hD := hD0.self (sz := s.heap.size)
  generalize hAe : va_A [(x, .inr (11, [.ref tp, .int 16, v2, v3, v4, v5, v6, v7, v8, v9, v10, v11, v12, v13])), (tp, .inl (cy 1, 1700, .inl f))] s.heap.size = A at hD ⊢
  have hA : ∀ q : Nat, s.heap.size ≤ q → A q := fun q h => by rw [← hAe]; exact Or.inr h
  have hS : va_S A s.heap s.heap [] := va_S.rf
  have hl := lv_entry ([.ref x, .int n]) (n := 3) (Nat.le_of_ble_eq_true rfl)
  rw [lg_entry_eq]
  generalize (lg_sl ([.ref x, .int n]) ++ List.replicate (3 - (lg_sl ([.ref x, .int n])).length) Slot.unset).toArray = ls at hl ⊢
  have hl : lv_has ls 3 [(0, .ref x), (1, .int n)] := hl
  refine lv_bipush (v := 24) hx hb dX11_putNumber_0 (by decide) ?_
  refine lv_istore_n (lv' := [(2, .int 24), (0, .ref x), (1, .int n)]) hx hb dX11_putNumber_2 rfl hl (by decide) rfl (fun ls hl => ?_)
  refine lv_iload_n hx hb dX11_putNumber_3 rfl (lv_at hl 0 rfl) ?_
  refine lv_if_lt (tgt := 48) hx hb dX11_putNumber_4 (by decide) (fun c9 => absurd c9 (by decide)) (fun _ => ?_)
  refine lv_aload_n hx hb dX11_putNumber_7 rfl (lv_at hl 1 rfl) ?_
  refine va_get (ci := 11) (v := .int 16) (C := RX11) (T := TX11) (N := 14) hx hb ht iX11 hown hK hP 0 rfl rfl 1 (by decide) (ht _ k_119) (fun _ h9 => h9) rfl dX11_putNumber_8 ?_
  refine lv_aload_n hx hb dX11_putNumber_11 rfl (lv_at hl 1 rfl) ?_
  refine va_get (ci := 11) (v := .ref tp) (C := RX11) (T := TX11) (N := 14) hx hb ht iX11 hown hK hP 0 rfl rfl 0 (by decide) (ht _ k_75) (fun _ h9 => h9) rfl dX11_putNumber_12 ?_
  refine va_alen (v := 1700) hx hb hK hP 1 1 rfl rfl rfl dX11_putNumber_15 ?_
  refine lv_icmp_ge (tgt := 42) hx hb dX11_putNumber_16 (by decide) (fun c9 => absurd c9 (by decide)) (fun _ => ?_)
  refine lv_aload_n hx hb dX11_putNumber_19 rfl (lv_at hl 1 rfl) ?_
  refine va_get (ci := 11) (v := .ref tp) (C := RX11) (T := TX11) (N := 14) hx hb ht iX11 hown hK hP 0 rfl rfl 0 (by decide) (ht _ k_75) (fun _ h9 => h9) rfl dX11_putNumber_20 ?_
  refine lv_aload_n hx hb dX11_putNumber_23 rfl (lv_at hl 1 rfl) ?_
  refine va_get (ci := 11) (v := .int 16) (C := RX11) (T := TX11) (N := 14) hx hb ht iX11 hown hK hP 0 rfl rfl 1 (by decide) (ht _ k_119) (fun _ h9 => h9) rfl dX11_putNumber_24 ?_
  refine lv_iload_n hx hb dX11_putNumber_27 rfl (lv_at hl 2 rfl) ?_
  refine lv_iload_n hx hb dX11_putNumber_28 rfl (lv_at hl 0 rfl) ?_
  refine lv_ishr hx hb dX11_putNumber_29 ?_
  refine lv_topi (fun v_1 ev_1 => ?_)
  refine lv_i2b hx hb dX11_putNumber_30 rfl ?_
  refine lv_topi (fun v_2 ev_2 => ?_)
  refine ow_bast hx hb hK hP hD hS 1 rfl (in_lit (by decide +kernel)) dX11_putNumber_31 (fun f_3 H locs hP hD hS => ?_)
  have hP : va_P G vwCl [(x, .inr (11, [.ref tp, .int 16, v2, v3, v4, v5, v6, v7, v8, v9, v10, v11, v12, v13])), (tp, .inl (cy 1, 1700, .inl f_3))] H := hP
  have hD : va_D A [(x, .inr (11, [.ref tp, .int 16, v2, v3, v4, v5, v6, v7, v8, v9, v10, v11, v12, v13])), (tp, .inl (cy 1, 1700, .inl f_3))] := hD
  refine lv_aload_n hx hb dX11_putNumber_32 rfl (lv_at hl 1 rfl) ?_
  refine lv_dup hx hb dX11_putNumber_33 rfl ?_
  refine va_get (ci := 11) (v := .int 16) (C := RX11) (T := TX11) (N := 14) hx hb ht iX11 hown hK hP 0 rfl rfl 1 (by decide) (ht _ k_119) (fun _ h9 => h9) rfl dX11_putNumber_34 ?_
  refine lv_iconst (v := 1) hx hb dX11_putNumber_37 (by decide) ?_
  refine lv_iadd hx hb dX11_putNumber_38 ?_
  refine ow_top 17 (by decide +kernel) ?_
  refine va_put (ci := 11) (v := .int 17) (ty := .int) (C := RX11) (T := TX11) (N := 14) hx hb ht iX11 tyX11 tyX11_ok nmX11 hown hK hP hD hS 0 rfl rfl 1 (by decide) (ht _ k_119) (fun _ h9 => h9) rfl (by decide +kernel) rfl rfl (Nat.le_of_ble_eq_true rfl) dX11_putNumber_39 (fun H locs hP hD hS => ?_)
  have hP : va_P G vwCl [(x, .inr (11, [.ref tp, .int 17, v2, v3, v4, v5, v6, v7, v8, v9, v10, v11, v12, v13])), (tp, .inl (cy 1, 1700, .inl f_3))] H := hP
  have hD : va_D A [(x, .inr (11, [.ref tp, .int 17, v2, v3, v4, v5, v6, v7, v8, v9, v10, v11, v12, v13])), (tp, .inl (cy 1, 1700, .inl f_3))] := hD
  refine lv_iinc (v := 16) (lv' := [(2, .int 16), (0, .ref x), (1, .int n)]) hx hb dX11_putNumber_42 hl (k := 0) rfl (by decide) (by decide) rfl (fun ls hl => ?_)
  refine lv_goto (tgt := 3) hx hb dX11_putNumber_45 (by decide) ?_
  refine lv_iload_n hx hb dX11_putNumber_3 rfl (lv_at hl 0 rfl) ?_
  refine lv_if_lt (tgt := 48) hx hb dX11_putNumber_4 (by decide) (fun c9 => absurd c9 (by decide)) (fun _ => ?_)
  refine lv_aload_n hx hb dX11_putNumber_7 rfl (lv_at hl 1 rfl) ?_
  refine va_get (ci := 11) (v := .int 17) (C := RX11) (T := TX11) (N := 14) hx hb ht iX11 hown hK hP 0 rfl rfl 1 (by decide) (ht _ k_119) (fun _ h9 => h9) rfl dX11_putNumber_8 ?_
  refine lv_aload_n hx hb dX11_putNumber_11 rfl (lv_at hl 1 rfl) ?_
  refine va_get (ci := 11) (v := .ref tp) (C := RX11) (T := TX11) (N := 14) hx hb ht iX11 hown hK hP 0 rfl rfl 0 (by decide) (ht _ k_75) (fun _ h9 => h9) rfl dX11_putNumber_12 ?_
  refine va_alen (v := 1700) hx hb hK hP 1 1 rfl rfl rfl dX11_putNumber_15 ?_
  refine lv_icmp_ge (tgt := 42) hx hb dX11_putNumber_16 (by decide) (fun c9 => absurd c9 (by decide)) (fun _ => ?_)
  refine lv_aload_n hx hb dX11_putNumber_19 rfl (lv_at hl 1 rfl) ?_
  refine va_get (ci := 11) (v := .ref tp) (C := RX11) (T := TX11) (N := 14) hx hb ht iX11 hown hK hP 0 rfl rfl 0 (by decide) (ht _ k_75) (fun _ h9 => h9) rfl dX11_putNumber_20 ?_
  refine lv_aload_n hx hb dX11_putNumber_23 rfl (lv_at hl 1 rfl) ?_
  refine va_get (ci := 11) (v := .int 17) (C := RX11) (T := TX11) (N := 14) hx hb ht iX11 hown hK hP 0 rfl rfl 1 (by decide) (ht _ k_119) (fun _ h9 => h9) rfl dX11_putNumber_24 ?_
  refine lv_iload_n hx hb dX11_putNumber_27 rfl (lv_at hl 2 rfl) ?_
  refine lv_iload_n hx hb dX11_putNumber_28 rfl (lv_at hl 0 rfl) ?_
  refine lv_ishr hx hb dX11_putNumber_29 ?_
  refine lv_topi (fun v_4 ev_4 => ?_)
  refine lv_i2b hx hb dX11_putNumber_30 rfl ?_
  refine lv_topi (fun v_5 ev_5 => ?_)
  refine ow_bast hx hb hK hP hD hS 1 rfl (in_lit (by decide +kernel)) dX11_putNumber_31 (fun f_6 H locs hP hD hS => ?_)
  have hP : va_P G vwCl [(x, .inr (11, [.ref tp, .int 17, v2, v3, v4, v5, v6, v7, v8, v9, v10, v11, v12, v13])), (tp, .inl (cy 1, 1700, .inl f_6))] H := hP
  have hD : va_D A [(x, .inr (11, [.ref tp, .int 17, v2, v3, v4, v5, v6, v7, v8, v9, v10, v11, v12, v13])), (tp, .inl (cy 1, 1700, .inl f_6))] := hD
  refine lv_aload_n hx hb dX11_putNumber_32 rfl (lv_at hl 1 rfl) ?_
  refine lv_dup hx hb dX11_putNumber_33 rfl ?_
  refine va_get (ci := 11) (v := .int 17) (C := RX11) (T := TX11) (N := 14) hx hb ht iX11 hown hK hP 0 rfl rfl 1 (by decide) (ht _ k_119) (fun _ h9 => h9) rfl dX11_putNumber_34 ?_
  refine lv_iconst (v := 1) hx hb dX11_putNumber_37 (by decide) ?_
  refine lv_iadd hx hb dX11_putNumber_38 ?_
  refine ow_top 18 (by decide +kernel) ?_
  refine va_put (ci := 11) (v := .int 18) (ty := .int) (C := RX11) (T := TX11) (N := 14) hx hb ht iX11 tyX11 tyX11_ok nmX11 hown hK hP hD hS 0 rfl rfl 1 (by decide) (ht _ k_119) (fun _ h9 => h9) rfl (by decide +kernel) rfl rfl (Nat.le_of_ble_eq_true rfl) dX11_putNumber_39 (fun H locs hP hD hS => ?_)
  have hP : va_P G vwCl [(x, .inr (11, [.ref tp, .int 18, v2, v3, v4, v5, v6, v7, v8, v9, v10, v11, v12, v13])), (tp, .inl (cy 1, 1700, .inl f_6))] H := hP
  have hD : va_D A [(x, .inr (11, [.ref tp, .int 18, v2, v3, v4, v5, v6, v7, v8, v9, v10, v11, v12, v13])), (tp, .inl (cy 1, 1700, .inl f_6))] := hD
  refine lv_iinc (v := 8) (lv' := [(2, .int 8), (0, .ref x), (1, .int n)]) hx hb dX11_putNumber_42 hl (k := 0) rfl (by decide) (by decide) rfl (fun ls hl => ?_)
  refine lv_goto (tgt := 3) hx hb dX11_putNumber_45 (by decide) ?_
  refine lv_iload_n hx hb dX11_putNumber_3 rfl (lv_at hl 0 rfl) ?_
  refine lv_if_lt (tgt := 48) hx hb dX11_putNumber_4 (by decide) (fun c9 => absurd c9 (by decide)) (fun _ => ?_)
  refine lv_aload_n hx hb dX11_putNumber_7 rfl (lv_at hl 1 rfl) ?_
  refine va_get (ci := 11) (v := .int 18) (C := RX11) (T := TX11) (N := 14) hx hb ht iX11 hown hK hP 0 rfl rfl 1 (by decide) (ht _ k_119) (fun _ h9 => h9) rfl dX11_putNumber_8 ?_
  refine lv_aload_n hx hb dX11_putNumber_11 rfl (lv_at hl 1 rfl) ?_
  refine va_get (ci := 11) (v := .ref tp) (C := RX11) (T := TX11) (N := 14) hx hb ht iX11 hown hK hP 0 rfl rfl 0 (by decide) (ht _ k_75) (fun _ h9 => h9) rfl dX11_putNumber_12 ?_
  refine va_alen (v := 1700) hx hb hK hP 1 1 rfl rfl rfl dX11_putNumber_15 ?_
  refine lv_icmp_ge (tgt := 42) hx hb dX11_putNumber_16 (by decide) (fun c9 => absurd c9 (by decide)) (fun _ => ?_)
  refine lv_aload_n hx hb dX11_putNumber_19 rfl (lv_at hl 1 rfl) ?_
  refine va_get (ci := 11) (v := .ref tp) (C := RX11) (T := TX11) (N := 14) hx hb ht iX11 hown hK hP 0 rfl rfl 0 (by decide) (ht _ k_75) (fun _ h9 => h9) rfl dX11_putNumber_20 ?_
  refine lv_aload_n hx hb dX11_putNumber_23 rfl (lv_at hl 1 rfl) ?_
  refine va_get (ci := 11) (v := .int 18) (C := RX11) (T := TX11) (N := 14) hx hb ht iX11 hown hK hP 0 rfl rfl 1 (by decide) (ht _ k_119) (fun _ h9 => h9) rfl dX11_putNumber_24 ?_
  refine lv_iload_n hx hb dX11_putNumber_27 rfl (lv_at hl 2 rfl) ?_
  refine lv_iload_n hx hb dX11_putNumber_28 rfl (lv_at hl 0 rfl) ?_
  refine lv_ishr hx hb dX11_putNumber_29 ?_
  refine lv_topi (fun v_7 ev_7 => ?_)
  refine lv_i2b hx hb dX11_putNumber_30 rfl ?_
  refine lv_topi (fun v_8 ev_8 => ?_)
  refine ow_bast hx hb hK hP hD hS 1 rfl (in_lit (by decide +kernel)) dX11_putNumber_31 (fun f_9 H locs hP hD hS => ?_)
  have hP : va_P G vwCl [(x, .inr (11, [.ref tp, .int 18, v2, v3, v4, v5, v6, v7, v8, v9, v10, v11, v12, v13])), (tp, .inl (cy 1, 1700, .inl f_9))] H := hP
  have hD : va_D A [(x, .inr (11, [.ref tp, .int 18, v2, v3, v4, v5, v6, v7, v8, v9, v10, v11, v12, v13])), (tp, .inl (cy 1, 1700, .inl f_9))] := hD
  refine lv_aload_n hx hb dX11_putNumber_32 rfl (lv_at hl 1 rfl) ?_
  refine lv_dup hx hb dX11_putNumber_33 rfl ?_
  refine va_get (ci := 11) (v := .int 18) (C := RX11) (T := TX11) (N := 14) hx hb ht iX11 hown hK hP 0 rfl rfl 1 (by decide) (ht _ k_119) (fun _ h9 => h9) rfl dX11_putNumber_34 ?_
  refine lv_iconst (v := 1) hx hb dX11_putNumber_37 (by decide) ?_
  refine lv_iadd hx hb dX11_putNumber_38 ?_
  refine ow_top 19 (by decide +kernel) ?_
  refine va_put (ci := 11) (v := .int 19) (ty := .int) (C := RX11) (T := TX11) (N := 14) hx hb ht iX11 tyX11 tyX11_ok nmX11 hown hK hP hD hS 0 rfl rfl 1 (by decide) (ht _ k_119) (fun _ h9 => h9) rfl (by decide +kernel) rfl rfl (Nat.le_of_ble_eq_true rfl) dX11_putNumber_39 (fun H locs hP hD hS => ?_)
  have hP : va_P G vwCl [(x, .inr (11, [.ref tp, .int 19, v2, v3, v4, v5, v6, v7, v8, v9, v10, v11, v12, v13])), (tp, .inl (cy 1, 1700, .inl f_9))] H := hP
  have hD : va_D A [(x, .inr (11, [.ref tp, .int 19, v2, v3, v4, v5, v6, v7, v8, v9, v10, v11, v12, v13])), (tp, .inl (cy 1, 1700, .inl f_9))] := hD
  refine lv_iinc (v := 0) (lv' := [(2, .int 0), (0, .ref x), (1, .int n)]) hx hb dX11_putNumber_42 hl (k := 0) rfl (by decide) (by decide) rfl (fun ls hl => ?_)
  refine lv_goto (tgt := 3) hx hb dX11_putNumber_45 (by decide) ?_
  refine lv_iload_n hx hb dX11_putNumber_3 rfl (lv_at hl 0 rfl) ?_
  refine lv_if_lt (tgt := 48) hx hb dX11_putNumber_4 (by decide) (fun c9 => absurd c9 (by decide)) (fun _ => ?_)
  refine lv_aload_n hx hb dX11_putNumber_7 rfl (lv_at hl 1 rfl) ?_
  refine va_get (ci := 11) (v := .int 19) (C := RX11) (T := TX11) (N := 14) hx hb ht iX11 hown hK hP 0 rfl rfl 1 (by decide) (ht _ k_119) (fun _ h9 => h9) rfl dX11_putNumber_8 ?_
  refine lv_aload_n hx hb dX11_putNumber_11 rfl (lv_at hl 1 rfl) ?_
  refine va_get (ci := 11) (v := .ref tp) (C := RX11) (T := TX11) (N := 14) hx hb ht iX11 hown hK hP 0 rfl rfl 0 (by decide) (ht _ k_75) (fun _ h9 => h9) rfl dX11_putNumber_12 ?_
  refine va_alen (v := 1700) hx hb hK hP 1 1 rfl rfl rfl dX11_putNumber_15 ?_
  refine lv_icmp_ge (tgt := 42) hx hb dX11_putNumber_16 (by decide) (fun c9 => absurd c9 (by decide)) (fun _ => ?_)
  refine lv_aload_n hx hb dX11_putNumber_19 rfl (lv_at hl 1 rfl) ?_
  refine va_get (ci := 11) (v := .ref tp) (C := RX11) (T := TX11) (N := 14) hx hb ht iX11 hown hK hP 0 rfl rfl 0 (by decide) (ht _ k_75) (fun _ h9 => h9) rfl dX11_putNumber_20 ?_
  refine lv_aload_n hx hb dX11_putNumber_23 rfl (lv_at hl 1 rfl) ?_
  refine va_get (ci := 11) (v := .int 19) (C := RX11) (T := TX11) (N := 14) hx hb ht iX11 hown hK hP 0 rfl rfl 1 (by decide) (ht _ k_119) (fun _ h9 => h9) rfl dX11_putNumber_24 ?_
  refine lv_iload_n hx hb dX11_putNumber_27 rfl (lv_at hl 2 rfl) ?_
  refine lv_iload_n hx hb dX11_putNumber_28 rfl (lv_at hl 0 rfl) ?_
  refine lv_ishr hx hb dX11_putNumber_29 ?_
  refine lv_topi (fun v_10 ev_10 => ?_)
  refine lv_i2b hx hb dX11_putNumber_30 rfl ?_
  refine lv_topi (fun v_11 ev_11 => ?_)
  refine ow_bast hx hb hK hP hD hS 1 rfl (in_lit (by decide +kernel)) dX11_putNumber_31 (fun f_12 H locs hP hD hS => ?_)
  have hP : va_P G vwCl [(x, .inr (11, [.ref tp, .int 19, v2, v3, v4, v5, v6, v7, v8, v9, v10, v11, v12, v13])), (tp, .inl (cy 1, 1700, .inl f_12))] H := hP
  have hD : va_D A [(x, .inr (11, [.ref tp, .int 19, v2, v3, v4, v5, v6, v7, v8, v9, v10, v11, v12, v13])), (tp, .inl (cy 1, 1700, .inl f_12))] := hD
  refine lv_aload_n hx hb dX11_putNumber_32 rfl (lv_at hl 1 rfl) ?_
  refine lv_dup hx hb dX11_putNumber_33 rfl ?_
  refine va_get (ci := 11) (v := .int 19) (C := RX11) (T := TX11) (N := 14) hx hb ht iX11 hown hK hP 0 rfl rfl 1 (by decide) (ht _ k_119) (fun _ h9 => h9) rfl dX11_putNumber_34 ?_
  refine lv_iconst (v := 1) hx hb dX11_putNumber_37 (by decide) ?_
  refine lv_iadd hx hb dX11_putNumber_38 ?_
  refine ow_top 20 (by decide +kernel) ?_
  refine va_put (ci := 11) (v := .int 20) (ty := .int) (C := RX11) (T := TX11) (N := 14) hx hb ht iX11 tyX11 tyX11_ok nmX11 hown hK hP hD hS 0 rfl rfl 1 (by decide) (ht _ k_119) (fun _ h9 => h9) rfl (by decide +kernel) rfl rfl (Nat.le_of_ble_eq_true rfl) dX11_putNumber_39 (fun H locs hP hD hS => ?_)
  have hP : va_P G vwCl [(x, .inr (11, [.ref tp, .int 20, v2, v3, v4, v5, v6, v7, v8, v9, v10, v11, v12, v13])), (tp, .inl (cy 1, 1700, .inl f_12))] H := hP
  have hD : va_D A [(x, .inr (11, [.ref tp, .int 20, v2, v3, v4, v5, v6, v7, v8, v9, v10, v11, v12, v13])), (tp, .inl (cy 1, 1700, .inl f_12))] := hD
  refine lv_iinc (v := (-8)) (lv' := [(2, .int (-8)), (0, .ref x), (1, .int n)]) hx hb dX11_putNumber_42 hl (k := 0) rfl (by decide) (by decide) rfl (fun ls hl => ?_)
  refine lv_goto (tgt := 3) hx hb dX11_putNumber_45 (by decide) ?_
  refine lv_iload_n hx hb dX11_putNumber_3 rfl (lv_at hl 0 rfl) ?_
  refine lv_if_lt (tgt := 48) hx hb dX11_putNumber_4 (by decide) (fun _ => ?_) (fun c9 => absurd (by decide) c9)
  refine W.widen (k := 0) (n := 0) (Nat.le_of_ble_eq_true rfl) (Nat.le_of_ble_eq_true rfl) ?_
  have hP9 : va_P G vwCl [(x, .inr (11, [.ref tp, .int 20, v2, v3, v4, v5, v6, v7, v8, v9, v10, v11, v12, v13])), (tp, .inl (cy 1, 1700, .inl ((lsf [f_12]) 0)))] _ := hP.sub [0, 1] rfl
  have hD9 : va_D A [(x, .inr (11, [.ref tp, .int 20, v2, v3, v4, v5, v6, v7, v8, v9, v10, v11, v12, v13])), (tp, .inl (cy 1, 1700, .inl ((lsf [f_12]) 0)))] := hD.sub [0, 1] (by decide) rfl
  exact W.vret hx hb hr (fun t ht9 hW => ⟨⟨(lsf [f_12]), rfl, trivial, ⟨by rw [ht9]; exact hP9, hD9⟩⟩, hS.F ht9⟩) hS.2.2 dX11_putNumber_48
set_option maxHeartbeats 4000000 in
set_option maxRecDepth 100000 in
theorem c_add (l : Launch) (G : va_G) (cy : Nat → ClassId) (sz : Nat) (h : Nat) (x : Int32) (y : Int32) (a : Nat) (b : Nat) (f : Nat → Int32) (g : Nat → Int32)  : Met l yX8_add (.code yX8_add cX8_add 3 none :: TBg) ({ frames := 1, cells := 0, slots := 0, locals := 64 }) (va_Pc [.ref h, .int x, .int y] (En G cy [(h, .inr (8, [.ref a, .ref b, .int 0])), (a, .inl (cy 0, 40, .inl f)), (b, .inl (cy 0, 40, .inl g))] sz)) (va_Qv (fun u : Nat → Nat → Int32 => True) (fun u t => Ex G (va_A [(h, .inr (8, [.ref a, .ref b, .int 0])), (a, .inl (cy 0, 40, .inl f)), (b, .inl (cy 0, 40, .inl g))] sz) [(h, .inr (8, [.ref a, .ref b, .int 1])), (a, .inl (cy 0, 40, .inl (u 0))), (b, .inl (cy 0, 40, .inl (u 1)))] t) (va_A [(h, .inr (8, [.ref a, .ref b, .int 0])), (a, .inl (cy 0, 40, .inl f)), (b, .inl (cy 0, 40, .inl g))] sz)) 0 0 (va_A [(h, .inr (8, [.ref a, .ref b, .int 0])), (a, .inl (cy 0, 40, .inl f)), (b, .inl (cy 0, 40, .inl g))] sz) := by
  refine Met.ofW (cc := cX8_add) (maxL := 3) (ret := none) (by decide) rfl ?_
  intro p e s m args below meth c s₁ B hml hv
  obtain ⟨rfl, hsz, hP, hK, hD0, hN⟩ := hv
  have hx := B.exec
  have hb := B.bytes
  have hr := B.returns
  have hts := atoms_spec (ws := .code yX8_add cX8_add 3 none :: TBg) B.pre
  have ht : ∀ w ∈ TBg, w.before _ s = true := fun w h => hts w (List.mem_cons_of_mem _ h)
  have hown : s.vm.findClass RX8 = some m.cls := findClass_of_methodNamed B.named
  have hlocks := B.notSynchronized
  subst hsz
  have hD := hD0.self (sz := s.heap.size)
  generalize hAe : va_A [(h, .inr (8, [.ref a, .ref b, .int 0])), (a, .inl (cy 0, 40, .inl f)), (b, .inl (cy 0, 40, .inl g))] s.heap.size = A at hD ⊢
  have hA : ∀ q : Nat, s.heap.size ≤ q → A q := fun q h => by rw [← hAe]; exact Or.inr h
  have hS : va_S A s.heap s.heap [] := va_S.rf
  have hl := lv_entry ([.ref h, .int x, .int y]) (n := 3) (Nat.le_of_ble_eq_true rfl)
  rw [lg_entry_eq]
  generalize (lg_sl ([.ref h, .int x, .int y]) ++ List.replicate (3 - (lg_sl ([.ref h, .int x, .int y])).length) Slot.unset).toArray = ls at hl ⊢
  have hl : lv_has ls 3 [(0, .ref h), (1, .int x), (2, .int y)] := hl
  refine lv_aload_n hx hb dX8_add_0 rfl (lv_at hl 0 rfl) ?_
  refine va_get (ci := 8) (v := .int 0) (C := RX8) (T := TX8) (N := 3) hx hb ht iX8 hown hK hP 0 rfl rfl 2 (by decide) (ht _ k_120) (fun _ h9 => h9) rfl dX8_add_1 ?_
  refine lv_aload_n hx hb dX8_add_4 rfl (lv_at hl 0 rfl) ?_
  refine va_get (ci := 8) (v := .ref a) (C := RX8) (T := TX8) (N := 3) hx hb ht iX8 hown hK hP 0 rfl rfl 0 (by decide) (ht _ k_29) (fun _ h9 => h9) rfl dX8_add_5 ?_
  refine va_alen (v := 40) hx hb hK hP 1 0 rfl rfl rfl dX8_add_8 ?_
  refine lv_icmp_ge (tgt := 42) hx hb dX8_add_9 (by decide) (fun c9 => absurd c9 (by decide)) (fun _ => ?_)
  refine lv_aload_n hx hb dX8_add_12 rfl (lv_at hl 0 rfl) ?_
  refine va_get (ci := 8) (v := .ref a) (C := RX8) (T := TX8) (N := 3) hx hb ht iX8 hown hK hP 0 rfl rfl 0 (by decide) (ht _ k_29) (fun _ h9 => h9) rfl dX8_add_13 ?_
  refine lv_aload_n hx hb dX8_add_16 rfl (lv_at hl 0 rfl) ?_
  refine va_get (ci := 8) (v := .int 0) (C := RX8) (T := TX8) (N := 3) hx hb ht iX8 hown hK hP 0 rfl rfl 2 (by decide) (ht _ k_120) (fun _ h9 => h9) rfl dX8_add_17 ?_
  refine lv_iload_n hx hb dX8_add_20 rfl (lv_at hl 1 rfl) ?_
  refine ow_iast hx hb hK hP hD hS 1 rfl (in_lit (by decide +kernel)) dX8_add_21 (fun f_1 H locs hP hD hS => ?_)
  have hP : va_P G vwCl [(h, .inr (8, [.ref a, .ref b, .int 0])), (a, .inl (cy 0, 40, .inl f_1)), (b, .inl (cy 0, 40, .inl g))] H := hP
  have hD : va_D A [(h, .inr (8, [.ref a, .ref b, .int 0])), (a, .inl (cy 0, 40, .inl f_1)), (b, .inl (cy 0, 40, .inl g))] := hD
  refine lv_aload_n hx hb dX8_add_22 rfl (lv_at hl 0 rfl) ?_
  refine va_get (ci := 8) (v := .ref b) (C := RX8) (T := TX8) (N := 3) hx hb ht iX8 hown hK hP 0 rfl rfl 1 (by decide) (ht _ k_30) (fun _ h9 => h9) rfl dX8_add_23 ?_
  refine lv_aload_n hx hb dX8_add_26 rfl (lv_at hl 0 rfl) ?_
  refine va_get (ci := 8) (v := .int 0) (C := RX8) (T := TX8) (N := 3) hx hb ht iX8 hown hK hP 0 rfl rfl 2 (by decide) (ht _ k_120) (fun _ h9 => h9) rfl dX8_add_27 ?_
  refine lv_iload_n hx hb dX8_add_30 rfl (lv_at hl 2 rfl) ?_
  refine ow_iast hx hb hK hP hD hS 2 rfl (in_lit (by decide +kernel)) dX8_add_31 (fun f_2 H locs hP hD hS => ?_)
  have hP : va_P G vwCl [(h, .inr (8, [.ref a, .ref b, .int 0])), (a, .inl (cy 0, 40, .inl f_1)), (b, .inl (cy 0, 40, .inl f_2))] H := hP
  have hD : va_D A [(h, .inr (8, [.ref a, .ref b, .int 0])), (a, .inl (cy 0, 40, .inl f_1)), (b, .inl (cy 0, 40, .inl f_2))] := hD
  refine lv_aload_n hx hb dX8_add_32 rfl (lv_at hl 0 rfl) ?_
  refine lv_dup hx hb dX8_add_33 rfl ?_
  refine va_get (ci := 8) (v := .int 0) (C := RX8) (T := TX8) (N := 3) hx hb ht iX8 hown hK hP 0 rfl rfl 2 (by decide) (ht _ k_120) (fun _ h9 => h9) rfl dX8_add_34 ?_
  refine lv_iconst (v := 1) hx hb dX8_add_37 (by decide) ?_
  refine lv_iadd hx hb dX8_add_38 ?_
  refine ow_top 1 (by decide +kernel) ?_
  refine va_put (ci := 8) (v := .int 1) (ty := .int) (C := RX8) (T := TX8) (N := 3) hx hb ht iX8 tyX8 tyX8_ok nmX8 hown hK hP hD hS 0 rfl rfl 2 (by decide) (ht _ k_120) (fun _ h9 => h9) rfl (by decide +kernel) rfl rfl (Nat.le_of_ble_eq_true rfl) dX8_add_39 (fun H locs hP hD hS => ?_)
  have hP : va_P G vwCl [(h, .inr (8, [.ref a, .ref b, .int 1])), (a, .inl (cy 0, 40, .inl f_1)), (b, .inl (cy 0, 40, .inl f_2))] H := hP
  have hD : va_D A [(h, .inr (8, [.ref a, .ref b, .int 1])), (a, .inl (cy 0, 40, .inl f_1)), (b, .inl (cy 0, 40, .inl f_2))] := hD
  refine W.widen (k := 0) (n := 0) (Nat.le_of_ble_eq_true rfl) (Nat.le_of_ble_eq_true rfl) ?_
  have hP9 : va_P G vwCl [(h, .inr (8, [.ref a, .ref b, .int 1])), (a, .inl (cy 0, 40, .inl ((lsf [f_1, f_2]) 0))), (b, .inl (cy 0, 40, .inl ((lsf [f_1, f_2]) 1)))] _ := hP.sub [0, 1, 2] rfl
  have hD9 : va_D A [(h, .inr (8, [.ref a, .ref b, .int 1])), (a, .inl (cy 0, 40, .inl ((lsf [f_1, f_2]) 0))), (b, .inl (cy 0, 40, .inl ((lsf [f_1, f_2]) 1)))] := hD.sub [0, 1, 2] (by decide) rfl
  exact W.vret hx hb hr (fun t ht9 hW => ⟨⟨(lsf [f_1, f_2]), rfl, trivial, ⟨by rw [ht9]; exact hP9, hD9⟩⟩, hS.F ht9⟩) hS.2.2 dX8_add_42
set_option maxHeartbeats 4000000 in
set_option maxRecDepth 100000 in
theorem c_songLike (l : Launch) (G : va_G) (cy : Nat → ClassId) (sz : Nat) (h : Nat) (o : Nat) (v0 : Value) (v1 : Value) (w0 : Value) (w1 : Value)  : Met l yX8_becomeLike (.code yX8_becomeLike cX8_becomeLike 3 none :: TBg) ({ frames := 1, cells := 0, slots := 0, locals := 64 }) (va_Pc [.ref h, .ref o] (En G cy [(h, .inr (8, [v0, v1, .int 0])), (o, .inr (8, [w0, w1, .int 0]))] sz)) (va_Qv (fun u : Unit => True) (fun u t => Ex G (va_A [(h, .inr (8, [v0, v1, .int 0])), (o, .inr (8, [w0, w1, .int 0]))] sz) [(h, .inr (8, [v0, v1, .int 0])), (o, .inr (8, [w0, w1, .int 0]))] t) (va_A [(h, .inr (8, [v0, v1, .int 0])), (o, .inr (8, [w0, w1, .int 0]))] sz)) 0 0 (va_A [(h, .inr (8, [v0, v1, .int 0])), (o, .inr (8, [w0, w1, .int 0]))] sz) := by
  refine Met.ofW (cc := cX8_becomeLike) (maxL := 3) (ret := none) (by decide) rfl ?_
  intro p e s m args below meth c s₁ B hml hv
  obtain ⟨rfl, hsz, hP, hK, hD0, hN⟩ := hv
  have hx := B.exec
  have hb := B.bytes
  have hr := B.returns
  have hts := atoms_spec (ws := .code yX8_becomeLike cX8_becomeLike 3 none :: TBg) B.pre
  have ht : ∀ w ∈ TBg, w.before _ s = true := fun w h => hts w (List.mem_cons_of_mem _ h)
  have hown : s.vm.findClass RX8 = some m.cls := findClass_of_methodNamed B.named
  have hlocks := B.notSynchronized
  subst hsz
  have hD := hD0.self (sz := s.heap.size)
  generalize hAe : va_A [(h, .inr (8, [v0, v1, .int 0])), (o, .inr (8, [w0, w1, .int 0]))] s.heap.size = A at hD ⊢
  have hA : ∀ q : Nat, s.heap.size ≤ q → A q := fun q h => by rw [← hAe]; exact Or.inr h
  have hS : va_S A s.heap s.heap [] := va_S.rf
  have hl := lv_entry ([.ref h, .ref o]) (n := 3) (Nat.le_of_ble_eq_true rfl)
  rw [lg_entry_eq]
  generalize (lg_sl ([.ref h, .ref o]) ++ List.replicate (3 - (lg_sl ([.ref h, .ref o])).length) Slot.unset).toArray = ls at hl ⊢
  have hl : lv_has ls 3 [(0, .ref h), (1, .ref o)] := hl
  refine lv_aload_n hx hb dX8_becomeLike_0 rfl (lv_at hl 0 rfl) ?_
  refine lv_iconst (v := 0) hx hb dX8_becomeLike_1 (by decide) ?_
  refine va_put (ci := 8) (v := .int 0) (ty := .int) (C := RX8) (T := TX8) (N := 3) hx hb ht iX8 tyX8 tyX8_ok nmX8 hown hK hP hD hS 0 rfl rfl 2 (by decide) (ht _ k_120) (fun _ h9 => h9) rfl (by decide +kernel) rfl rfl (Nat.le_of_ble_eq_true rfl) dX8_becomeLike_2 (fun H locs hP hD hS => ?_)
  have hP : va_P G vwCl [(h, .inr (8, [v0, v1, .int 0])), (o, .inr (8, [w0, w1, .int 0]))] H := hP
  have hD : va_D A [(h, .inr (8, [v0, v1, .int 0])), (o, .inr (8, [w0, w1, .int 0]))] := hD
  refine lv_iconst (v := 0) hx hb dX8_becomeLike_5 (by decide) ?_
  refine lv_istore_n (lv' := [(2, .int 0), (0, .ref h), (1, .ref o)]) hx hb dX8_becomeLike_6 rfl hl (by decide) rfl (fun ls hl => ?_)
  refine lv_iload_n hx hb dX8_becomeLike_7 rfl (lv_at hl 0 rfl) ?_
  refine lv_aload_n hx hb dX8_becomeLike_8 rfl (lv_at hl 2 rfl) ?_
  refine va_get (ci := 8) (v := .int 0) (C := RX8) (T := TX8) (N := 3) hx hb ht iX8 hown hK hP 1 rfl rfl 2 (by decide) (ht _ k_120) (fun _ h9 => h9) rfl dX8_becomeLike_9 ?_
  refine lv_icmp_ge (tgt := 37) hx hb dX8_becomeLike_12 (by decide) (fun _ => ?_) (fun c9 => absurd (by decide) c9)
  refine W.widen (k := 0) (n := 0) (Nat.le_of_ble_eq_true rfl) (Nat.le_of_ble_eq_true rfl) ?_
  have hP9 : va_P G vwCl [(h, .inr (8, [v0, v1, .int 0])), (o, .inr (8, [w0, w1, .int 0]))] _ := hP.sub [0, 1] rfl
  have hD9 : va_D A [(h, .inr (8, [v0, v1, .int 0])), (o, .inr (8, [w0, w1, .int 0]))] := hD.sub [0, 1] (by decide) rfl
  exact W.vret hx hb hr (fun t ht9 hW => ⟨⟨(), rfl, trivial, ⟨by rw [ht9]; exact hP9, hD9⟩⟩, hS.F ht9⟩) hS.2.2 dX8_becomeLike_37
set_option maxHeartbeats 4000000 in
set_option maxRecDepth 100000 in
theorem c_fill (l : Launch) (G : va_G) (cy : Nat → ClassId) (sz : Nat) (a : Nat) (f : Nat → Int32)  : Met l yJ7_fill_53178 (.code yJ7_fill_53178 cJ7_fill_53178 4 none :: TBg) ({ frames := 1, cells := 0, slots := 0, locals := 64 }) (va_Pc [.ref a, .int 0] (En G cy [(a, .inl (cy 0, 8, .inl f))] sz)) (va_Qv (fun u : Nat → Nat → Int32 => True) (fun u t => Ex G (va_A [(a, .inl (cy 0, 8, .inl f))] sz) [(a, .inl (cy 0, 8, .inl (u 0)))] t) (va_A [(a, .inl (cy 0, 8, .inl f))] sz)) 0 0 (va_A [(a, .inl (cy 0, 8, .inl f))] sz) := by
  refine Met.ofW (cc := cJ7_fill_53178) (maxL := 4) (ret := none) (by decide) rfl ?_
  intro p e s m args below meth c s₁ B hml hv
  obtain ⟨rfl, hsz, hP, hK, hD0, hN⟩ := hv
  have hx := B.exec
  have hb := B.bytes
  have hr := B.returns
  have hts := atoms_spec (ws := .code yJ7_fill_53178 cJ7_fill_53178 4 none :: TBg) B.pre
  have ht : ∀ w ∈ TBg, w.before _ s = true := fun w h => hts w (List.mem_cons_of_mem _ h)
  have hown : s.vm.findClass RJ7 = some m.cls := findClass_of_methodNamed B.named
  have hlocks := B.notSynchronized
  subst hsz
  have hD := hD0.self (sz := s.heap.size)
  generalize hAe : va_A [(a, .inl (cy 0, 8, .inl f))] s.heap.size = A at hD ⊢
  have hA : ∀ q : Nat, s.heap.size ≤ q → A q := fun q h => by rw [← hAe]; exact Or.inr h
  have hS : va_S A s.heap s.heap [] := va_S.rf
  have hl := lv_entry ([.ref a, .int 0]) (n := 4) (Nat.le_of_ble_eq_true rfl)
  rw [lg_entry_eq]
  generalize (lg_sl ([.ref a, .int 0]) ++ List.replicate (4 - (lg_sl ([.ref a, .int 0])).length) Slot.unset).toArray = ls at hl ⊢
  have hl : lv_has ls 4 [(0, .ref a), (1, .int 0)] := hl
  refine lv_iconst (v := 0) hx hb dJ7_fill_53178_0 (by decide) ?_
  refine lv_istore_n (lv' := [(2, .int 0), (0, .ref a), (1, .int 0)]) hx hb dJ7_fill_53178_1 rfl hl (by decide) rfl (fun ls hl => ?_)
  refine lv_aload_n hx hb dJ7_fill_53178_2 rfl (lv_at hl 1 rfl) ?_
  refine va_alen (v := 8) hx hb hK hP 0 0 rfl rfl rfl dJ7_fill_53178_3 ?_
  refine lv_istore_n (lv' := [(3, .int 8), (2, .int 0), (0, .ref a), (1, .int 0)]) hx hb dJ7_fill_53178_4 rfl hl (by decide) rfl (fun ls hl => ?_)
  refine lv_iload_n hx hb dJ7_fill_53178_5 rfl (lv_at hl 1 rfl) ?_
  refine lv_iload_n hx hb dJ7_fill_53178_6 rfl (lv_at hl 0 rfl) ?_
  refine lv_icmp_ge (tgt := 20) hx hb dJ7_fill_53178_7 (by decide) (fun c9 => absurd c9 (by decide)) (fun _ => ?_)
  refine lv_aload_n hx hb dJ7_fill_53178_10 rfl (lv_at hl 2 rfl) ?_
  refine lv_iload_n hx hb dJ7_fill_53178_11 rfl (lv_at hl 1 rfl) ?_
  refine lv_iload_n hx hb dJ7_fill_53178_12 rfl (lv_at hl 3 rfl) ?_
  refine ow_iast hx hb hK hP hD hS 0 rfl (in_lit (by decide +kernel)) dJ7_fill_53178_13 (fun f_1 H locs hP hD hS => ?_)
  have hP : va_P G vwCl [(a, .inl (cy 0, 8, .inl f_1))] H := hP
  have hD : va_D A [(a, .inl (cy 0, 8, .inl f_1))] := hD
  refine lv_iinc (v := 1) (lv' := [(2, .int 1), (3, .int 8), (0, .ref a), (1, .int 0)]) hx hb dJ7_fill_53178_14 hl (k := 1) rfl (by decide) (by decide) rfl (fun ls hl => ?_)
  refine lv_goto (tgt := 5) hx hb dJ7_fill_53178_17 (by decide) ?_
  refine lv_iload_n hx hb dJ7_fill_53178_5 rfl (lv_at hl 0 rfl) ?_
  refine lv_iload_n hx hb dJ7_fill_53178_6 rfl (lv_at hl 1 rfl) ?_
  refine lv_icmp_ge (tgt := 20) hx hb dJ7_fill_53178_7 (by decide) (fun c9 => absurd c9 (by decide)) (fun _ => ?_)
  refine lv_aload_n hx hb dJ7_fill_53178_10 rfl (lv_at hl 2 rfl) ?_
  refine lv_iload_n hx hb dJ7_fill_53178_11 rfl (lv_at hl 0 rfl) ?_
  refine lv_iload_n hx hb dJ7_fill_53178_12 rfl (lv_at hl 3 rfl) ?_
  refine ow_iast hx hb hK hP hD hS 0 rfl (in_lit (by decide +kernel)) dJ7_fill_53178_13 (fun f_2 H locs hP hD hS => ?_)
  have hP : va_P G vwCl [(a, .inl (cy 0, 8, .inl f_2))] H := hP
  have hD : va_D A [(a, .inl (cy 0, 8, .inl f_2))] := hD
  refine lv_iinc (v := 2) (lv' := [(2, .int 2), (3, .int 8), (0, .ref a), (1, .int 0)]) hx hb dJ7_fill_53178_14 hl (k := 0) rfl (by decide) (by decide) rfl (fun ls hl => ?_)
  refine lv_goto (tgt := 5) hx hb dJ7_fill_53178_17 (by decide) ?_
  refine lv_iload_n hx hb dJ7_fill_53178_5 rfl (lv_at hl 0 rfl) ?_
  refine lv_iload_n hx hb dJ7_fill_53178_6 rfl (lv_at hl 1 rfl) ?_
  refine lv_icmp_ge (tgt := 20) hx hb dJ7_fill_53178_7 (by decide) (fun c9 => absurd c9 (by decide)) (fun _ => ?_)
  refine lv_aload_n hx hb dJ7_fill_53178_10 rfl (lv_at hl 2 rfl) ?_
  refine lv_iload_n hx hb dJ7_fill_53178_11 rfl (lv_at hl 0 rfl) ?_
  refine lv_iload_n hx hb dJ7_fill_53178_12 rfl (lv_at hl 3 rfl) ?_
  refine ow_iast hx hb hK hP hD hS 0 rfl (in_lit (by decide +kernel)) dJ7_fill_53178_13 (fun f_3 H locs hP hD hS => ?_)
  have hP : va_P G vwCl [(a, .inl (cy 0, 8, .inl f_3))] H := hP
  have hD : va_D A [(a, .inl (cy 0, 8, .inl f_3))] := hD
  refine lv_iinc (v := 3) (lv' := [(2, .int 3), (3, .int 8), (0, .ref a), (1, .int 0)]) hx hb dJ7_fill_53178_14 hl (k := 0) rfl (by decide) (by decide) rfl (fun ls hl => ?_)
  refine lv_goto (tgt := 5) hx hb dJ7_fill_53178_17 (by decide) ?_
  refine lv_iload_n hx hb dJ7_fill_53178_5 rfl (lv_at hl 0 rfl) ?_
  refine lv_iload_n hx hb dJ7_fill_53178_6 rfl (lv_at hl 1 rfl) ?_
  refine lv_icmp_ge (tgt := 20) hx hb dJ7_fill_53178_7 (by decide) (fun c9 => absurd c9 (by decide)) (fun _ => ?_)
  refine lv_aload_n hx hb dJ7_fill_53178_10 rfl (lv_at hl 2 rfl) ?_
  refine lv_iload_n hx hb dJ7_fill_53178_11 rfl (lv_at hl 0 rfl) ?_
  refine lv_iload_n hx hb dJ7_fill_53178_12 rfl (lv_at hl 3 rfl) ?_
  refine ow_iast hx hb hK hP hD hS 0 rfl (in_lit (by decide +kernel)) dJ7_fill_53178_13 (fun f_4 H locs hP hD hS => ?_)
  have hP : va_P G vwCl [(a, .inl (cy 0, 8, .inl f_4))] H := hP
  have hD : va_D A [(a, .inl (cy 0, 8, .inl f_4))] := hD
  refine lv_iinc (v := 4) (lv' := [(2, .int 4), (3, .int 8), (0, .ref a), (1, .int 0)]) hx hb dJ7_fill_53178_14 hl (k := 0) rfl (by decide) (by decide) rfl (fun ls hl => ?_)
  refine lv_goto (tgt := 5) hx hb dJ7_fill_53178_17 (by decide) ?_
  refine lv_iload_n hx hb dJ7_fill_53178_5 rfl (lv_at hl 0 rfl) ?_
  refine lv_iload_n hx hb dJ7_fill_53178_6 rfl (lv_at hl 1 rfl) ?_
  refine lv_icmp_ge (tgt := 20) hx hb dJ7_fill_53178_7 (by decide) (fun c9 => absurd c9 (by decide)) (fun _ => ?_)
  refine lv_aload_n hx hb dJ7_fill_53178_10 rfl (lv_at hl 2 rfl) ?_
  refine lv_iload_n hx hb dJ7_fill_53178_11 rfl (lv_at hl 0 rfl) ?_
  refine lv_iload_n hx hb dJ7_fill_53178_12 rfl (lv_at hl 3 rfl) ?_
  refine ow_iast hx hb hK hP hD hS 0 rfl (in_lit (by decide +kernel)) dJ7_fill_53178_13 (fun f_5 H locs hP hD hS => ?_)
  have hP : va_P G vwCl [(a, .inl (cy 0, 8, .inl f_5))] H := hP
  have hD : va_D A [(a, .inl (cy 0, 8, .inl f_5))] := hD
  refine lv_iinc (v := 5) (lv' := [(2, .int 5), (3, .int 8), (0, .ref a), (1, .int 0)]) hx hb dJ7_fill_53178_14 hl (k := 0) rfl (by decide) (by decide) rfl (fun ls hl => ?_)
  refine lv_goto (tgt := 5) hx hb dJ7_fill_53178_17 (by decide) ?_
  refine lv_iload_n hx hb dJ7_fill_53178_5 rfl (lv_at hl 0 rfl) ?_
  refine lv_iload_n hx hb dJ7_fill_53178_6 rfl (lv_at hl 1 rfl) ?_
  refine lv_icmp_ge (tgt := 20) hx hb dJ7_fill_53178_7 (by decide) (fun c9 => absurd c9 (by decide)) (fun _ => ?_)
  refine lv_aload_n hx hb dJ7_fill_53178_10 rfl (lv_at hl 2 rfl) ?_
  refine lv_iload_n hx hb dJ7_fill_53178_11 rfl (lv_at hl 0 rfl) ?_
  refine lv_iload_n hx hb dJ7_fill_53178_12 rfl (lv_at hl 3 rfl) ?_
  refine ow_iast hx hb hK hP hD hS 0 rfl (in_lit (by decide +kernel)) dJ7_fill_53178_13 (fun f_6 H locs hP hD hS => ?_)
  have hP : va_P G vwCl [(a, .inl (cy 0, 8, .inl f_6))] H := hP
  have hD : va_D A [(a, .inl (cy 0, 8, .inl f_6))] := hD
  refine lv_iinc (v := 6) (lv' := [(2, .int 6), (3, .int 8), (0, .ref a), (1, .int 0)]) hx hb dJ7_fill_53178_14 hl (k := 0) rfl (by decide) (by decide) rfl (fun ls hl => ?_)
  refine lv_goto (tgt := 5) hx hb dJ7_fill_53178_17 (by decide) ?_
  refine lv_iload_n hx hb dJ7_fill_53178_5 rfl (lv_at hl 0 rfl) ?_
  refine lv_iload_n hx hb dJ7_fill_53178_6 rfl (lv_at hl 1 rfl) ?_
  refine lv_icmp_ge (tgt := 20) hx hb dJ7_fill_53178_7 (by decide) (fun c9 => absurd c9 (by decide)) (fun _ => ?_)
  refine lv_aload_n hx hb dJ7_fill_53178_10 rfl (lv_at hl 2 rfl) ?_
  refine lv_iload_n hx hb dJ7_fill_53178_11 rfl (lv_at hl 0 rfl) ?_
  refine lv_iload_n hx hb dJ7_fill_53178_12 rfl (lv_at hl 3 rfl) ?_
  refine ow_iast hx hb hK hP hD hS 0 rfl (in_lit (by decide +kernel)) dJ7_fill_53178_13 (fun f_7 H locs hP hD hS => ?_)
  have hP : va_P G vwCl [(a, .inl (cy 0, 8, .inl f_7))] H := hP
  have hD : va_D A [(a, .inl (cy 0, 8, .inl f_7))] := hD
  refine lv_iinc (v := 7) (lv' := [(2, .int 7), (3, .int 8), (0, .ref a), (1, .int 0)]) hx hb dJ7_fill_53178_14 hl (k := 0) rfl (by decide) (by decide) rfl (fun ls hl => ?_)
  refine lv_goto (tgt := 5) hx hb dJ7_fill_53178_17 (by decide) ?_
  refine lv_iload_n hx hb dJ7_fill_53178_5 rfl (lv_at hl 0 rfl) ?_
  refine lv_iload_n hx hb dJ7_fill_53178_6 rfl (lv_at hl 1 rfl) ?_
  refine lv_icmp_ge (tgt := 20) hx hb dJ7_fill_53178_7 (by decide) (fun c9 => absurd c9 (by decide)) (fun _ => ?_)
  refine lv_aload_n hx hb dJ7_fill_53178_10 rfl (lv_at hl 2 rfl) ?_
  refine lv_iload_n hx hb dJ7_fill_53178_11 rfl (lv_at hl 0 rfl) ?_
  refine lv_iload_n hx hb dJ7_fill_53178_12 rfl (lv_at hl 3 rfl) ?_
  refine ow_iast hx hb hK hP hD hS 0 rfl (in_lit (by decide +kernel)) dJ7_fill_53178_13 (fun f_8 H locs hP hD hS => ?_)
  have hP : va_P G vwCl [(a, .inl (cy 0, 8, .inl f_8))] H := hP
  have hD : va_D A [(a, .inl (cy 0, 8, .inl f_8))] := hD
  refine lv_iinc (v := 8) (lv' := [(2, .int 8), (3, .int 8), (0, .ref a), (1, .int 0)]) hx hb dJ7_fill_53178_14 hl (k := 0) rfl (by decide) (by decide) rfl (fun ls hl => ?_)
  refine lv_goto (tgt := 5) hx hb dJ7_fill_53178_17 (by decide) ?_
  refine lv_iload_n hx hb dJ7_fill_53178_5 rfl (lv_at hl 0 rfl) ?_
  refine lv_iload_n hx hb dJ7_fill_53178_6 rfl (lv_at hl 1 rfl) ?_
  refine lv_icmp_ge (tgt := 20) hx hb dJ7_fill_53178_7 (by decide) (fun _ => ?_) (fun c9 => absurd (by decide) c9)
  refine W.widen (k := 0) (n := 0) (Nat.le_of_ble_eq_true rfl) (Nat.le_of_ble_eq_true rfl) ?_
  have hP9 : va_P G vwCl [(a, .inl (cy 0, 8, .inl ((lsf [f_8]) 0)))] _ := hP.sub [0] rfl
  have hD9 : va_D A [(a, .inl (cy 0, 8, .inl ((lsf [f_8]) 0)))] := hD.sub [0] (by decide) rfl
  exact W.vret hx hb hr (fun t ht9 hW => ⟨⟨(lsf [f_8]), rfl, trivial, ⟨by rw [ht9]; exact hP9, hD9⟩⟩, hS.F ht9⟩) hS.2.2 dJ7_fill_53178_20
set_option maxHeartbeats 4000000 in
set_option maxRecDepth 100000 in
theorem c_sceneClear (l : Launch) (G : va_G) (cy : Nat → ClassId) (sz : Nat) (h : Nat) (a : Nat) (w : Nat) (f : Nat → Int32) (v0 : Value) (v1 : Value)  : Met l yX7_clear (.code yX7_clear cX7_clear 1 none :: TBg) ({ frames := 2, cells := 0, slots := 0, locals := 128 }) (va_Pc [.ref h] (En G cy [(h, .inr (7, [.ref a, .int 0, .int 0, .ref w, .int 0])), (a, .inr (8, [v0, v1, .int 0])), (w, .inl (cy 0, 8, .inl f))] sz)) (va_Qv (fun u : Nat → Nat → Int32 => True) (fun u t => Ex G (va_A [(h, .inr (7, [.ref a, .int 0, .int 0, .ref w, .int 0])), (a, .inr (8, [v0, v1, .int 0])), (w, .inl (cy 0, 8, .inl f))] sz) [(h, .inr (7, [.ref a, .int 0, .int 0, .ref w, .int 0])), (a, .inr (8, [v0, v1, .int 0])), (w, .inl (cy 0, 8, .inl (u 0)))] t) (va_A [(h, .inr (7, [.ref a, .int 0, .int 0, .ref w, .int 0])), (a, .inr (8, [v0, v1, .int 0])), (w, .inl (cy 0, 8, .inl f))] sz)) 0 0 (va_A [(h, .inr (7, [.ref a, .int 0, .int 0, .ref w, .int 0])), (a, .inr (8, [v0, v1, .int 0])), (w, .inl (cy 0, 8, .inl f))] sz) := by
  refine Met.ofW (cc := cX7_clear) (maxL := 1) (ret := none) (by decide) rfl ?_
  intro p e s m args below meth c s₁ B hml hv
  obtain ⟨rfl, hsz, hP, hK, hD0, hN⟩ := hv
  have hx := B.exec
  have hb := B.bytes
  have hr := B.returns
  have hts := atoms_spec (ws := .code yX7_clear cX7_clear 1 none :: TBg) B.pre
  have ht : ∀ w ∈ TBg, w.before _ s = true := fun w h => hts w (List.mem_cons_of_mem _ h)
  have hown : s.vm.findClass RX7 = some m.cls := findClass_of_methodNamed B.named
  have hlocks := B.notSynchronized
  subst hsz
  have hD := hD0.self (sz := s.heap.size)
  generalize hAe : va_A [(h, .inr (7, [.ref a, .int 0, .int 0, .ref w, .int 0])), (a, .inr (8, [v0, v1, .int 0])), (w, .inl (cy 0, 8, .inl f))] s.heap.size = A at hD ⊢
  have hA : ∀ q : Nat, s.heap.size ≤ q → A q := fun q h => by rw [← hAe]; exact Or.inr h
  have hS : va_S A s.heap s.heap [] := va_S.rf
  have hl := lv_entry ([.ref h]) (n := 1) (Nat.le_of_ble_eq_true rfl)
  rw [lg_entry_eq]
  generalize (lg_sl ([.ref h]) ++ List.replicate (1 - (lg_sl ([.ref h])).length) Slot.unset).toArray = ls at hl ⊢
  have hl : lv_has ls 1 [(0, .ref h)] := hl
  refine lv_aload_n hx hb dX7_clear_0 rfl (lv_at hl 0 rfl) ?_
  refine va_get (ci := 7) (v := .ref a) (C := RX7) (T := TX7) (N := 5) hx hb ht iX7 hown hK hP 0 rfl rfl 0 (by decide) (ht _ k_45) (fun _ h9 => h9) rfl dX7_clear_1 ?_
  refine lv_iconst (v := 0) hx hb dX7_clear_4 (by decide) ?_
  refine va_putN (host := "TuneLocks") (ci := 8) (v := .int 0) (ty := .int) (C := RX8) (T := TX8) (N := 3) hx hb ht iX8 tyX8 tyX8_ok nmX8 hown hK hP hD hS 1 rfl rfl 2 (by decide) (va_Nw.use rfl (hN.1 _ ns_50)) (fun _ h9 => h9) rfl (by decide +kernel) rfl rfl (Nat.le_of_ble_eq_true rfl) dX7_clear_5 (fun H locs hP hD hS => ?_)
  have hP : va_P G vwCl [(h, .inr (7, [.ref a, .int 0, .int 0, .ref w, .int 0])), (a, .inr (8, [v0, v1, .int 0])), (w, .inl (cy 0, 8, .inl f))] H := hP
  have hD : va_D A [(h, .inr (7, [.ref a, .int 0, .int 0, .ref w, .int 0])), (a, .inr (8, [v0, v1, .int 0])), (w, .inl (cy 0, 8, .inl f))] := hD
  refine lv_aload_n hx hb dX7_clear_8 rfl (lv_at hl 0 rfl) ?_
  refine lv_iconst (v := 0) hx hb dX7_clear_9 (by decide) ?_
  refine va_put (ci := 7) (v := .int 0) (ty := .boolean) (C := RX7) (T := TX7) (N := 5) hx hb ht iX7 tyX7 tyX7_ok nmX7 hown hK hP hD hS 0 rfl rfl 1 (by decide) (ht _ k_121) (fun _ h9 => h9) rfl (by decide +kernel) rfl rfl (Nat.le_of_ble_eq_true rfl) dX7_clear_10 (fun H locs hP hD hS => ?_)
  have hP : va_P G vwCl [(h, .inr (7, [.ref a, .int 0, .int 0, .ref w, .int 0])), (a, .inr (8, [v0, v1, .int 0])), (w, .inl (cy 0, 8, .inl f))] H := hP
  have hD : va_D A [(h, .inr (7, [.ref a, .int 0, .int 0, .ref w, .int 0])), (a, .inr (8, [v0, v1, .int 0])), (w, .inl (cy 0, 8, .inl f))] := hD
  refine lv_aload_n hx hb dX7_clear_13 rfl (lv_at hl 0 rfl) ?_
  refine lv_iconst (v := 0) hx hb dX7_clear_14 (by decide) ?_
  refine va_put (ci := 7) (v := .int 0) (ty := .int) (C := RX7) (T := TX7) (N := 5) hx hb ht iX7 tyX7 tyX7_ok nmX7 hown hK hP hD hS 0 rfl rfl 2 (by decide) (ht _ k_122) (fun _ h9 => h9) rfl (by decide +kernel) rfl rfl (Nat.le_of_ble_eq_true rfl) dX7_clear_15 (fun H locs hP hD hS => ?_)
  have hP : va_P G vwCl [(h, .inr (7, [.ref a, .int 0, .int 0, .ref w, .int 0])), (a, .inr (8, [v0, v1, .int 0])), (w, .inl (cy 0, 8, .inl f))] H := hP
  have hD : va_D A [(h, .inr (7, [.ref a, .int 0, .int 0, .ref w, .int 0])), (a, .inr (8, [v0, v1, .int 0])), (w, .inl (cy 0, 8, .inl f))] := hD
  refine lv_aload_n hx hb dX7_clear_18 rfl (lv_at hl 0 rfl) ?_
  refine va_get (ci := 7) (v := .ref w) (C := RX7) (T := TX7) (N := 5) hx hb ht iX7 hown hK hP 0 rfl rfl 3 (by decide) (ht _ k_46) (fun _ h9 => h9) rfl dX7_clear_19 ?_
  refine lv_iconst (v := 0) hx hb dX7_clear_22 (by decide) ?_
  have hFc := va_free (wc := [(w, .inl (cy 0, 8, .inl f))]) hD hS hA [2] rfl
  have hPc := hP.sub (ws' := [(w, .inl (cy 0, 8, .inl f))]) [2] rfl
  have hDc := hD.sub (ws' := [(w, .inl (cy 0, 8, .inl f))]) [2] (by decide) rfl
  refine va_callv (va_runS (As := [.ref w, .int 0]) (rest := []) ⟨hx, hb, hml, hown, ht⟩ (c_fill l G cy _ w f ) (va_cwS 2 ht (gs k_124 k_125 k_126 k_123) rfl rfl rfl (by decide +kernel) ⟨Nat.le_of_ble_eq_true rfl, Nat.le_of_ble_eq_true rfl⟩) ⟨En.blind, fun U hU hW => ⟨rfl, En.of hU hW hPc hK hDc hN⟩⟩ rfl rfl hl.1 rfl (lv_room (Nat.le_of_ble_eq_true rfl)) dX7_clear_23 ⟨Nat.le_of_ble_eq_true rfl, Nat.le_of_ble_eq_true rfl⟩) hS (fun q _ h => hFc q h) hFc (fun u_1 t H locs ht9 hvm hw hB hz1 hk1 hS => ?_)
  obtain ⟨hP1, hD1⟩ := hB
  rw [ht9] at hP1
  obtain ⟨hP, hD⟩ := fr_put (wc := [(w, .inl (cy 0, 8, .inl f))]) (w1 := [(w, .inl (cy 0, 8, .inl (u_1 0)))]) hP hD [2] rfl rfl rfl hk1 hP1
  clear hFc hPc hDc hP1 hD1 hz1 hk1
  have hP : va_P G vwCl [(h, .inr (7, [.ref a, .int 0, .int 0, .ref w, .int 0])), (a, .inr (8, [v0, v1, .int 0])), (w, .inl (cy 0, 8, .inl (u_1 0)))] H := hP
  have hD : va_D A [(h, .inr (7, [.ref a, .int 0, .int 0, .ref w, .int 0])), (a, .inr (8, [v0, v1, .int 0])), (w, .inl (cy 0, 8, .inl (u_1 0)))] := hD
  refine lv_aload_n hx hb dX7_clear_26 rfl (lv_at hl 0 rfl) ?_
  refine lv_iconst (v := 0) hx hb dX7_clear_27 (by decide) ?_
  refine va_put (ci := 7) (v := .int 0) (ty := .boolean) (C := RX7) (T := TX7) (N := 5) hx hb ht iX7 tyX7 tyX7_ok nmX7 hown hK hP hD hS 0 rfl rfl 4 (by decide) (ht _ k_127) (fun _ h9 => h9) rfl (by decide +kernel) rfl rfl (Nat.le_of_ble_eq_true rfl) dX7_clear_28 (fun H locs hP hD hS => ?_)
  have hP : va_P G vwCl [(h, .inr (7, [.ref a, .int 0, .int 0, .ref w, .int 0])), (a, .inr (8, [v0, v1, .int 0])), (w, .inl (cy 0, 8, .inl (u_1 0)))] H := hP
  have hD : va_D A [(h, .inr (7, [.ref a, .int 0, .int 0, .ref w, .int 0])), (a, .inr (8, [v0, v1, .int 0])), (w, .inl (cy 0, 8, .inl (u_1 0)))] := hD
  refine W.widen (k := 0) (n := 0) (Nat.le_of_ble_eq_true rfl) (Nat.le_of_ble_eq_true rfl) ?_
  have hP9 : va_P G vwCl [(h, .inr (7, [.ref a, .int 0, .int 0, .ref w, .int 0])), (a, .inr (8, [v0, v1, .int 0])), (w, .inl (cy 0, 8, .inl ((lsf [(u_1 0)]) 0)))] _ := hP.sub [0, 1, 2] rfl
  have hD9 : va_D A [(h, .inr (7, [.ref a, .int 0, .int 0, .ref w, .int 0])), (a, .inr (8, [v0, v1, .int 0])), (w, .inl (cy 0, 8, .inl ((lsf [(u_1 0)]) 0)))] := hD.sub [0, 1, 2] (by decide) rfl
  exact W.vret hx hb hr (fun t ht9 hW => ⟨⟨(lsf [(u_1 0)]), rfl, trivial, ⟨by rw [ht9]; exact hP9, hD9⟩⟩, hS.F ht9⟩) hS.2.2 dX7_clear_31
set_option maxHeartbeats 4000000 in
set_option maxRecDepth 100000 in
theorem c_sceneLike (l : Launch) (G : va_G) (cy : Nat → ClassId) (sz : Nat) (h : Nat) (o : Nat) (a : Nat) (w : Nat) (b : Nat) (z : Nat) (f : Nat → Int32) (g : Nat → Int32) (v0 : Value) (v1 : Value) (w0 : Value) (w1 : Value)  : Met l yX7_becomeLike (.code yX7_becomeLike cX7_becomeLike 2 none :: TBg) ({ frames := 2, cells := 0, slots := 0, locals := 128 }) (va_Pc [.ref h, .ref o] (En G cy [(h, .inr (7, [.ref a, .int 0, .int 0, .ref w, .int 0])), (o, .inr (7, [.ref b, .int 0, .int 0, .ref z, .int 0])), (a, .inr (8, [v0, v1, .int 0])), (b, .inr (8, [w0, w1, .int 0])), (w, .inl (cy 0, 8, .inl f)), (z, .inl (cy 0, 8, .inl g))] sz)) (va_Qv (fun u : Nat → Nat → Int32 => True) (fun u t => Ex G (va_A [(h, .inr (7, [.ref a, .int 0, .int 0, .ref w, .int 0])), (o, .inr (7, [.ref b, .int 0, .int 0, .ref z, .int 0])), (a, .inr (8, [v0, v1, .int 0])), (b, .inr (8, [w0, w1, .int 0])), (w, .inl (cy 0, 8, .inl f)), (z, .inl (cy 0, 8, .inl g))] sz) [(h, .inr (7, [.ref a, .int 0, .int 0, .ref w, .int 0])), (o, .inr (7, [.ref b, .int 0, .int 0, .ref z, .int 0])), (a, .inr (8, [v0, v1, .int 0])), (b, .inr (8, [w0, w1, .int 0])), (w, .inl (cy 0, 8, .inl (u 0))), (z, .inl (cy 0, 8, .inl (u 1)))] t) (va_A [(h, .inr (7, [.ref a, .int 0, .int 0, .ref w, .int 0])), (o, .inr (7, [.ref b, .int 0, .int 0, .ref z, .int 0])), (a, .inr (8, [v0, v1, .int 0])), (b, .inr (8, [w0, w1, .int 0])), (w, .inl (cy 0, 8, .inl f)), (z, .inl (cy 0, 8, .inl g))] sz)) 0 0 (va_A [(h, .inr (7, [.ref a, .int 0, .int 0, .ref w, .int 0])), (o, .inr (7, [.ref b, .int 0, .int 0, .ref z, .int 0])), (a, .inr (8, [v0, v1, .int 0])), (b, .inr (8, [w0, w1, .int 0])), (w, .inl (cy 0, 8, .inl f)), (z, .inl (cy 0, 8, .inl g))] sz) := by
  refine Met.ofW (cc := cX7_becomeLike) (maxL := 2) (ret := none) (by decide) rfl ?_
  intro p e s m args below meth c s₁ B hml hv
  obtain ⟨rfl, hsz, hP, hK, hD0, hN⟩ := hv
  have hx := B.exec
  have hb := B.bytes
  have hr := B.returns
  have hts := atoms_spec (ws := .code yX7_becomeLike cX7_becomeLike 2 none :: TBg) B.pre
  have ht : ∀ w ∈ TBg, w.before _ s = true := fun w h => hts w (List.mem_cons_of_mem _ h)
  have hown : s.vm.findClass RX7 = some m.cls := findClass_of_methodNamed B.named
  have hlocks := B.notSynchronized
  subst hsz
  have hD := hD0.self (sz := s.heap.size)
  generalize hAe : va_A [(h, .inr (7, [.ref a, .int 0, .int 0, .ref w, .int 0])), (o, .inr (7, [.ref b, .int 0, .int 0, .ref z, .int 0])), (a, .inr (8, [v0, v1, .int 0])), (b, .inr (8, [w0, w1, .int 0])), (w, .inl (cy 0, 8, .inl f)), (z, .inl (cy 0, 8, .inl g))] s.heap.size = A at hD ⊢
  have hA : ∀ q : Nat, s.heap.size ≤ q → A q := fun q h => by rw [← hAe]; exact Or.inr h
  have hS : va_S A s.heap s.heap [] := va_S.rf
  have hl := lv_entry ([.ref h, .ref o]) (n := 2) (Nat.le_of_ble_eq_true rfl)
  rw [lg_entry_eq]
  generalize (lg_sl ([.ref h, .ref o]) ++ List.replicate (2 - (lg_sl ([.ref h, .ref o])).length) Slot.unset).toArray = ls at hl ⊢
  have hl : lv_has ls 2 [(0, .ref h), (1, .ref o)] := hl
  refine lv_aload_n hx hb dX7_becomeLike_0 rfl (lv_at hl 0 rfl) ?_
  refine va_get (ci := 7) (v := .ref a) (C := RX7) (T := TX7) (N := 5) hx hb ht iX7 hown hK hP 0 rfl rfl 0 (by decide) (ht _ k_45) (fun _ h9 => h9) rfl dX7_becomeLike_1 ?_
  refine lv_aload_n hx hb dX7_becomeLike_4 rfl (lv_at hl 1 rfl) ?_
  refine va_get (ci := 7) (v := .ref b) (C := RX7) (T := TX7) (N := 5) hx hb ht iX7 hown hK hP 1 rfl rfl 0 (by decide) (ht _ k_45) (fun _ h9 => h9) rfl dX7_becomeLike_5 ?_
  have hFc := va_free (wc := [(a, .inr (8, [v0, v1, .int 0])), (b, .inr (8, [w0, w1, .int 0]))]) hD hS hA [2, 3] rfl
  have hPc := hP.sub (ws' := [(a, .inr (8, [v0, v1, .int 0])), (b, .inr (8, [w0, w1, .int 0]))]) [2, 3] rfl
  have hDc := hD.sub (ws' := [(a, .inr (8, [v0, v1, .int 0])), (b, .inr (8, [w0, w1, .int 0]))]) [2, 3] (by decide) rfl
  refine va_callv (va_runV (As := [.ref b]) (rest := []) ⟨hx, hb, hml, hown, ht⟩ (c_songLike l G cy _ a b (v0) (v1) (w0) (w1) ) (cwV 1 ht (gv k_129 k_130 k_131 k_41 k_128) rfl rfl rfl (by decide +kernel) ⟨Nat.le_of_ble_eq_true rfl, Nat.le_of_ble_eq_true rfl⟩) ⟨En.blind, va_recv hK hP (ci := 8) (q0 := 2) rfl rfl, fun U hU hW => ⟨rfl, En.of hU hW hPc hK hDc hN⟩⟩ rfl rfl hl.1 rfl (lv_room (Nat.le_of_ble_eq_true rfl)) dX7_becomeLike_8 ⟨Nat.le_of_ble_eq_true rfl, Nat.le_of_ble_eq_true rfl⟩) hS (fun q _ h => hFc q h) hFc (fun u_1 t H locs ht9 hvm hw hB hz1 hk1 hS => ?_)
  obtain ⟨hP1, hD1⟩ := hB
  rw [ht9] at hP1
  obtain ⟨hP, hD⟩ := fr_put (wc := [(a, .inr (8, [v0, v1, .int 0])), (b, .inr (8, [w0, w1, .int 0]))]) (w1 := [(a, .inr (8, [v0, v1, .int 0])), (b, .inr (8, [w0, w1, .int 0]))]) hP hD [2, 3] rfl rfl rfl hk1 hP1
  clear hFc hPc hDc hP1 hD1 hz1 hk1
  have hP : va_P G vwCl [(h, .inr (7, [.ref a, .int 0, .int 0, .ref w, .int 0])), (o, .inr (7, [.ref b, .int 0, .int 0, .ref z, .int 0])), (a, .inr (8, [v0, v1, .int 0])), (b, .inr (8, [w0, w1, .int 0])), (w, .inl (cy 0, 8, .inl f)), (z, .inl (cy 0, 8, .inl g))] H := hP
  have hD : va_D A [(h, .inr (7, [.ref a, .int 0, .int 0, .ref w, .int 0])), (o, .inr (7, [.ref b, .int 0, .int 0, .ref z, .int 0])), (a, .inr (8, [v0, v1, .int 0])), (b, .inr (8, [w0, w1, .int 0])), (w, .inl (cy 0, 8, .inl f)), (z, .inl (cy 0, 8, .inl g))] := hD
  refine lv_aload_n hx hb dX7_becomeLike_11 rfl (lv_at hl 0 rfl) ?_
  refine lv_aload_n hx hb dX7_becomeLike_12 rfl (lv_at hl 1 rfl) ?_
  refine va_get (ci := 7) (v := .int 0) (C := RX7) (T := TX7) (N := 5) hx hb ht iX7 hown hK hP 1 rfl rfl 1 (by decide) (ht _ k_121) (fun _ h9 => h9) rfl dX7_becomeLike_13 ?_
  refine va_put (ci := 7) (v := .int 0) (ty := .boolean) (C := RX7) (T := TX7) (N := 5) hx hb ht iX7 tyX7 tyX7_ok nmX7 hown hK hP hD hS 0 rfl rfl 1 (by decide) (ht _ k_121) (fun _ h9 => h9) rfl (by decide +kernel) rfl rfl (Nat.le_of_ble_eq_true rfl) dX7_becomeLike_16 (fun H locs hP hD hS => ?_)
  have hP : va_P G vwCl [(h, .inr (7, [.ref a, .int 0, .int 0, .ref w, .int 0])), (o, .inr (7, [.ref b, .int 0, .int 0, .ref z, .int 0])), (a, .inr (8, [v0, v1, .int 0])), (b, .inr (8, [w0, w1, .int 0])), (w, .inl (cy 0, 8, .inl f)), (z, .inl (cy 0, 8, .inl g))] H := hP
  have hD : va_D A [(h, .inr (7, [.ref a, .int 0, .int 0, .ref w, .int 0])), (o, .inr (7, [.ref b, .int 0, .int 0, .ref z, .int 0])), (a, .inr (8, [v0, v1, .int 0])), (b, .inr (8, [w0, w1, .int 0])), (w, .inl (cy 0, 8, .inl f)), (z, .inl (cy 0, 8, .inl g))] := hD
  refine lv_aload_n hx hb dX7_becomeLike_19 rfl (lv_at hl 0 rfl) ?_
  refine lv_aload_n hx hb dX7_becomeLike_20 rfl (lv_at hl 1 rfl) ?_
  refine va_get (ci := 7) (v := .int 0) (C := RX7) (T := TX7) (N := 5) hx hb ht iX7 hown hK hP 1 rfl rfl 2 (by decide) (ht _ k_122) (fun _ h9 => h9) rfl dX7_becomeLike_21 ?_
  refine va_put (ci := 7) (v := .int 0) (ty := .int) (C := RX7) (T := TX7) (N := 5) hx hb ht iX7 tyX7 tyX7_ok nmX7 hown hK hP hD hS 0 rfl rfl 2 (by decide) (ht _ k_122) (fun _ h9 => h9) rfl (by decide +kernel) rfl rfl (Nat.le_of_ble_eq_true rfl) dX7_becomeLike_24 (fun H locs hP hD hS => ?_)
  have hP : va_P G vwCl [(h, .inr (7, [.ref a, .int 0, .int 0, .ref w, .int 0])), (o, .inr (7, [.ref b, .int 0, .int 0, .ref z, .int 0])), (a, .inr (8, [v0, v1, .int 0])), (b, .inr (8, [w0, w1, .int 0])), (w, .inl (cy 0, 8, .inl f)), (z, .inl (cy 0, 8, .inl g))] H := hP
  have hD : va_D A [(h, .inr (7, [.ref a, .int 0, .int 0, .ref w, .int 0])), (o, .inr (7, [.ref b, .int 0, .int 0, .ref z, .int 0])), (a, .inr (8, [v0, v1, .int 0])), (b, .inr (8, [w0, w1, .int 0])), (w, .inl (cy 0, 8, .inl f)), (z, .inl (cy 0, 8, .inl g))] := hD
  refine lv_aload_n hx hb dX7_becomeLike_27 rfl (lv_at hl 1 rfl) ?_
  refine va_get (ci := 7) (v := .ref z) (C := RX7) (T := TX7) (N := 5) hx hb ht iX7 hown hK hP 1 rfl rfl 3 (by decide) (ht _ k_46) (fun _ h9 => h9) rfl dX7_becomeLike_28 ?_
  refine lv_iconst (v := 0) hx hb dX7_becomeLike_31 (by decide) ?_
  refine lv_aload_n hx hb dX7_becomeLike_32 rfl (lv_at hl 0 rfl) ?_
  refine va_get (ci := 7) (v := .ref w) (C := RX7) (T := TX7) (N := 5) hx hb ht iX7 hown hK hP 0 rfl rfl 3 (by decide) (ht _ k_46) (fun _ h9 => h9) rfl dX7_becomeLike_33 ?_
  refine lv_iconst (v := 0) hx hb dX7_becomeLike_36 (by decide) ?_
  refine lv_bipush (v := 8) hx hb dX7_becomeLike_37 (by decide) ?_
  refine va_copyi (ty := .int) hx hb (by rw [hml]; exact hl.1.symm) hown (ht _ k_132) (ht _ k_133) (ht _ k_134) (ht _ k_135) hK hP hD hS 5 4 0 0 rfl rfl rfl rfl rfl (by decide) (by decide) (by decide) (Nat.le_of_ble_eq_true rfl) (Nat.le_of_ble_eq_true rfl) (fun _ _ => rfl) (Nat.le_of_ble_eq_true rfl) (Nat.le_of_ble_eq_true rfl) dX7_becomeLike_39 (fun H locs hP hD hS => ?_)
  obtain ⟨f_2, ef_2⟩ : ∃ g9 : Nat → Int32, g9 = va_cpy g f ((0 : Int32).toNatClampNeg) ((0 : Int32).toNatClampNeg) ((8 : Int32).toNatClampNeg) := ⟨_, rfl⟩
  rw [← ef_2] at hP hD
  have hP : va_P G vwCl [(h, .inr (7, [.ref a, .int 0, .int 0, .ref w, .int 0])), (o, .inr (7, [.ref b, .int 0, .int 0, .ref z, .int 0])), (a, .inr (8, [v0, v1, .int 0])), (b, .inr (8, [w0, w1, .int 0])), (w, .inl (cy 0, 8, .inl f_2)), (z, .inl (cy 0, 8, .inl g))] H := hP
  have hD : va_D A [(h, .inr (7, [.ref a, .int 0, .int 0, .ref w, .int 0])), (o, .inr (7, [.ref b, .int 0, .int 0, .ref z, .int 0])), (a, .inr (8, [v0, v1, .int 0])), (b, .inr (8, [w0, w1, .int 0])), (w, .inl (cy 0, 8, .inl f_2)), (z, .inl (cy 0, 8, .inl g))] := hD
  refine W.widen (k := 0) (n := 0) (Nat.le_of_ble_eq_true rfl) (Nat.le_of_ble_eq_true rfl) ?_
  have hP9 : va_P G vwCl [(h, .inr (7, [.ref a, .int 0, .int 0, .ref w, .int 0])), (o, .inr (7, [.ref b, .int 0, .int 0, .ref z, .int 0])), (a, .inr (8, [v0, v1, .int 0])), (b, .inr (8, [w0, w1, .int 0])), (w, .inl (cy 0, 8, .inl ((lsf [f_2, g]) 0))), (z, .inl (cy 0, 8, .inl ((lsf [f_2, g]) 1)))] _ := hP.sub [0, 1, 2, 3, 4, 5] rfl
  have hD9 : va_D A [(h, .inr (7, [.ref a, .int 0, .int 0, .ref w, .int 0])), (o, .inr (7, [.ref b, .int 0, .int 0, .ref z, .int 0])), (a, .inr (8, [v0, v1, .int 0])), (b, .inr (8, [w0, w1, .int 0])), (w, .inl (cy 0, 8, .inl ((lsf [f_2, g]) 0))), (z, .inl (cy 0, 8, .inl ((lsf [f_2, g]) 1)))] := hD.sub [0, 1, 2, 3, 4, 5] (by decide) rfl
  exact W.vret hx hb hr (fun t ht9 hW => ⟨⟨(lsf [f_2, g]), rfl, trivial, ⟨by rw [ht9]; exact hP9, hD9⟩⟩, hS.F ht9⟩) hS.2.2 dX7_becomeLike_42
set_option maxHeartbeats 4000000 in
set_option maxRecDepth 100000 in
theorem c_hearAll (l : Launch) (G : va_G) (cy : Nat → ClassId) (sz : Nat) (h : Nat) (sg : Nat) (tw : Nat) (t0 : Value) (t1 : Value) (t2 : Value) (t4 : Value) (t5 : Value) (t6 : Value) (t7 : Value) (t8 : Value) (v0 : Value) (v1 : Value) (v2 : Value) (v3 : Value) (v4 : Value) (w0 : Value) (w1 : Value)  : Met l yX2_hearAll (.code yX2_hearAll cX2_hearAll 6 none :: TBg) ({ frames := 1, cells := 0, slots := 0, locals := 64 }) (va_Pc [.ref h, .ref sg, .ref tw] (En G cy [(h, .inr (2, [v0, v1, v2, v3, v4])), (sg, .inr (8, [w0, w1, .int 0])), (tw, .inr (9, [t0, t1, t2, .int 0, t4, t5, t6, t7, t8]))] sz)) (va_Qv (fun u : Unit => True) (fun u t => Ex G (va_A [(h, .inr (2, [v0, v1, v2, v3, v4])), (sg, .inr (8, [w0, w1, .int 0])), (tw, .inr (9, [t0, t1, t2, .int 0, t4, t5, t6, t7, t8]))] sz) [(h, .inr (2, [v0, v1, v2, v3, .int 0])), (sg, .inr (8, [w0, w1, .int 0])), (tw, .inr (9, [t0, t1, t2, .int 0, t4, t5, t6, t7, t8]))] t) (va_A [(h, .inr (2, [v0, v1, v2, v3, v4])), (sg, .inr (8, [w0, w1, .int 0])), (tw, .inr (9, [t0, t1, t2, .int 0, t4, t5, t6, t7, t8]))] sz)) 0 0 (va_A [(h, .inr (2, [v0, v1, v2, v3, v4])), (sg, .inr (8, [w0, w1, .int 0])), (tw, .inr (9, [t0, t1, t2, .int 0, t4, t5, t6, t7, t8]))] sz) := by
  refine Met.ofW (cc := cX2_hearAll) (maxL := 6) (ret := none) (by decide) rfl ?_
  intro p e s m args below meth c s₁ B hml hv
  obtain ⟨rfl, hsz, hP, hK, hD0, hN⟩ := hv
  have hx := B.exec
  have hb := B.bytes
  have hr := B.returns
  have hts := atoms_spec (ws := .code yX2_hearAll cX2_hearAll 6 none :: TBg) B.pre
  have ht : ∀ w ∈ TBg, w.before _ s = true := fun w h => hts w (List.mem_cons_of_mem _ h)
  have hown : s.vm.findClass RX2 = some m.cls := findClass_of_methodNamed B.named
  have hlocks := B.notSynchronized
  subst hsz
  have hD := hD0.self (sz := s.heap.size)
  generalize hAe : va_A [(h, .inr (2, [v0, v1, v2, v3, v4])), (sg, .inr (8, [w0, w1, .int 0])), (tw, .inr (9, [t0, t1, t2, .int 0, t4, t5, t6, t7, t8]))] s.heap.size = A at hD ⊢
  have hA : ∀ q : Nat, s.heap.size ≤ q → A q := fun q h => by rw [← hAe]; exact Or.inr h
  have hS : va_S A s.heap s.heap [] := va_S.rf
  have hl := lv_entry ([.ref h, .ref sg, .ref tw]) (n := 6) (Nat.le_of_ble_eq_true rfl)
  rw [lg_entry_eq]
  generalize (lg_sl ([.ref h, .ref sg, .ref tw]) ++ List.replicate (6 - (lg_sl ([.ref h, .ref sg, .ref tw])).length) Slot.unset).toArray = ls at hl ⊢
  have hl : lv_has ls 6 [(0, .ref h), (1, .ref sg), (2, .ref tw)] := hl
  refine lv_aload_n hx hb dX2_hearAll_0 rfl (lv_at hl 0 rfl) ?_
  refine lv_aload_n hx hb dX2_hearAll_1 rfl (lv_at hl 1 rfl) ?_
  refine va_getN (host := "TuneLocks") (ci := 8) (v := .int 0) (C := RX8) (T := TX8) (N := 3) hx hb ht iX8 hown hK hP 1 rfl rfl 2 (by decide) (va_Nw.use rfl (hN.1 _ ns_24)) (fun _ h9 => h9) rfl dX2_hearAll_2 ?_
  refine va_put (ci := 2) (v := .int 0) (ty := .int) (C := RX2) (T := TX2) (N := 5) hx hb ht iX2 tyX2 tyX2_ok nmX2 hown hK hP hD hS 0 rfl rfl 4 (by decide) (ht _ k_136) (fun _ h9 => h9) rfl (by decide +kernel) rfl rfl (Nat.le_of_ble_eq_true rfl) dX2_hearAll_5 (fun H locs hP hD hS => ?_)
  have hP : va_P G vwCl [(h, .inr (2, [v0, v1, v2, v3, .int 0])), (sg, .inr (8, [w0, w1, .int 0])), (tw, .inr (9, [t0, t1, t2, .int 0, t4, t5, t6, t7, t8]))] H := hP
  have hD : va_D A [(h, .inr (2, [v0, v1, v2, v3, .int 0])), (sg, .inr (8, [w0, w1, .int 0])), (tw, .inr (9, [t0, t1, t2, .int 0, t4, t5, t6, t7, t8]))] := hD
  refine lv_iconst (v := 0) hx hb dX2_hearAll_8 (by decide) ?_
  refine lv_istore_n (lv' := [(3, .int 0), (0, .ref h), (1, .ref sg), (2, .ref tw)]) hx hb dX2_hearAll_9 rfl hl (by decide) rfl (fun ls hl => ?_)
  refine lv_iload_n hx hb dX2_hearAll_10 rfl (lv_at hl 0 rfl) ?_
  refine lv_aload_n hx hb dX2_hearAll_11 rfl (lv_at hl 3 rfl) ?_
  refine va_getN (host := "TuneLocks") (ci := 9) (v := .int 0) (C := RX9) (T := TX9) (N := 9) hx hb ht iX9 hown hK hP 2 rfl rfl 3 (by decide) (va_Nw.use rfl (hN.1 _ ns_25)) (fun _ h9 => h9) rfl dX2_hearAll_12 ?_
  refine lv_icmp_ge (tgt := 103) hx hb dX2_hearAll_15 (by decide) (fun _ => ?_) (fun c9 => absurd (by decide) c9)
  refine W.widen (k := 0) (n := 0) (Nat.le_of_ble_eq_true rfl) (Nat.le_of_ble_eq_true rfl) ?_
  have hP9 : va_P G vwCl [(h, .inr (2, [v0, v1, v2, v3, .int 0])), (sg, .inr (8, [w0, w1, .int 0])), (tw, .inr (9, [t0, t1, t2, .int 0, t4, t5, t6, t7, t8]))] _ := hP.sub [0, 1, 2] rfl
  have hD9 : va_D A [(h, .inr (2, [v0, v1, v2, v3, .int 0])), (sg, .inr (8, [w0, w1, .int 0])), (tw, .inr (9, [t0, t1, t2, .int 0, t4, t5, t6, t7, t8]))] := hD.sub [0, 1, 2] (by decide) rfl
  exact W.vret hx hb hr (fun t ht9 hW => ⟨⟨(), rfl, trivial, ⟨by rw [ht9]; exact hP9, hD9⟩⟩, hS.F ht9⟩) hS.2.2 dX2_hearAll_103
set_option maxHeartbeats 4000000 in
set_option maxRecDepth 100000 in
theorem c_hearLast (l : Launch) (G : va_G) (cy : Nat → ClassId) (sz : Nat) (h : Nat) (sg : Nat) (tw : Nat) (t0 : Value) (t1 : Value) (t2 : Value) (t4 : Value) (t5 : Value) (t6 : Value) (t7 : Value) (t8 : Value) (v0 : Value) (v1 : Value) (v2 : Value) (v3 : Value) (v4 : Value) (w0 : Value) (w1 : Value)  : Met l yX2_hearLast (.code yX2_hearLast cX2_hearLast 5 none :: TBg) ({ frames := 1, cells := 0, slots := 0, locals := 64 }) (va_Pc [.ref h, .ref sg, .ref tw] (En G cy [(h, .inr (2, [v0, v1, v2, v3, v4])), (sg, .inr (8, [w0, w1, .int 1])), (tw, .inr (9, [t0, t1, t2, .int 0, t4, t5, t6, t7, t8]))] sz)) (va_Qv (fun u : Unit => True) (fun u t => Ex G (va_A [(h, .inr (2, [v0, v1, v2, v3, v4])), (sg, .inr (8, [w0, w1, .int 1])), (tw, .inr (9, [t0, t1, t2, .int 0, t4, t5, t6, t7, t8]))] sz) [(h, .inr (2, [v0, v1, v2, v3, .int 1])), (sg, .inr (8, [w0, w1, .int 1])), (tw, .inr (9, [t0, t1, t2, .int 0, t4, t5, t6, t7, t8]))] t) (va_A [(h, .inr (2, [v0, v1, v2, v3, v4])), (sg, .inr (8, [w0, w1, .int 1])), (tw, .inr (9, [t0, t1, t2, .int 0, t4, t5, t6, t7, t8]))] sz)) 0 0 (va_A [(h, .inr (2, [v0, v1, v2, v3, v4])), (sg, .inr (8, [w0, w1, .int 1])), (tw, .inr (9, [t0, t1, t2, .int 0, t4, t5, t6, t7, t8]))] sz) := by
  refine Met.ofW (cc := cX2_hearLast) (maxL := 5) (ret := none) (by decide) rfl ?_
  intro p e s m args below meth c s₁ B hml hv
  obtain ⟨rfl, hsz, hP, hK, hD0, hN⟩ := hv
  have hx := B.exec
  have hb := B.bytes
  have hr := B.returns
  have hts := atoms_spec (ws := .code yX2_hearLast cX2_hearLast 5 none :: TBg) B.pre
  have ht : ∀ w ∈ TBg, w.before _ s = true := fun w h => hts w (List.mem_cons_of_mem _ h)
  have hown : s.vm.findClass RX2 = some m.cls := findClass_of_methodNamed B.named
  have hlocks := B.notSynchronized
  subst hsz
  have hD := hD0.self (sz := s.heap.size)
  generalize hAe : va_A [(h, .inr (2, [v0, v1, v2, v3, v4])), (sg, .inr (8, [w0, w1, .int 1])), (tw, .inr (9, [t0, t1, t2, .int 0, t4, t5, t6, t7, t8]))] s.heap.size = A at hD ⊢
  have hA : ∀ q : Nat, s.heap.size ≤ q → A q := fun q h => by rw [← hAe]; exact Or.inr h
  have hS : va_S A s.heap s.heap [] := va_S.rf
  have hl := lv_entry ([.ref h, .ref sg, .ref tw]) (n := 5) (Nat.le_of_ble_eq_true rfl)
  rw [lg_entry_eq]
  generalize (lg_sl ([.ref h, .ref sg, .ref tw]) ++ List.replicate (5 - (lg_sl ([.ref h, .ref sg, .ref tw])).length) Slot.unset).toArray = ls at hl ⊢
  have hl : lv_has ls 5 [(0, .ref h), (1, .ref sg), (2, .ref tw)] := hl
  refine lv_aload_n hx hb dX2_hearLast_0 rfl (lv_at hl 0 rfl) ?_
  refine lv_aload_n hx hb dX2_hearLast_1 rfl (lv_at hl 1 rfl) ?_
  refine va_getN (host := "TuneLocks") (ci := 8) (v := .int 1) (C := RX8) (T := TX8) (N := 3) hx hb ht iX8 hown hK hP 1 rfl rfl 2 (by decide) (va_Nw.use rfl (hN.1 _ ns_24)) (fun _ h9 => h9) rfl dX2_hearLast_2 ?_
  refine va_put (ci := 2) (v := .int 1) (ty := .int) (C := RX2) (T := TX2) (N := 5) hx hb ht iX2 tyX2 tyX2_ok nmX2 hown hK hP hD hS 0 rfl rfl 4 (by decide) (ht _ k_136) (fun _ h9 => h9) rfl (by decide +kernel) rfl rfl (Nat.le_of_ble_eq_true rfl) dX2_hearLast_5 (fun H locs hP hD hS => ?_)
  have hP : va_P G vwCl [(h, .inr (2, [v0, v1, v2, v3, .int 1])), (sg, .inr (8, [w0, w1, .int 1])), (tw, .inr (9, [t0, t1, t2, .int 0, t4, t5, t6, t7, t8]))] H := hP
  have hD : va_D A [(h, .inr (2, [v0, v1, v2, v3, .int 1])), (sg, .inr (8, [w0, w1, .int 1])), (tw, .inr (9, [t0, t1, t2, .int 0, t4, t5, t6, t7, t8]))] := hD
  refine lv_iconst (v := 0) hx hb dX2_hearLast_8 (by decide) ?_
  refine lv_istore_n (lv' := [(3, .int 0), (0, .ref h), (1, .ref sg), (2, .ref tw)]) hx hb dX2_hearLast_9 rfl hl (by decide) rfl (fun ls hl => ?_)
  refine lv_iload_n hx hb dX2_hearLast_10 rfl (lv_at hl 0 rfl) ?_
  refine lv_aload_n hx hb dX2_hearLast_11 rfl (lv_at hl 3 rfl) ?_
  refine va_getN (host := "TuneLocks") (ci := 9) (v := .int 0) (C := RX9) (T := TX9) (N := 9) hx hb ht iX9 hown hK hP 2 rfl rfl 3 (by decide) (va_Nw.use rfl (hN.1 _ ns_25)) (fun _ h9 => h9) rfl dX2_hearLast_12 ?_
  refine lv_icmp_ge (tgt := 64) hx hb dX2_hearLast_15 (by decide) (fun _ => ?_) (fun c9 => absurd (by decide) c9)
  refine W.widen (k := 0) (n := 0) (Nat.le_of_ble_eq_true rfl) (Nat.le_of_ble_eq_true rfl) ?_
  have hP9 : va_P G vwCl [(h, .inr (2, [v0, v1, v2, v3, .int 1])), (sg, .inr (8, [w0, w1, .int 1])), (tw, .inr (9, [t0, t1, t2, .int 0, t4, t5, t6, t7, t8]))] _ := hP.sub [0, 1, 2] rfl
  have hD9 : va_D A [(h, .inr (2, [v0, v1, v2, v3, .int 1])), (sg, .inr (8, [w0, w1, .int 1])), (tw, .inr (9, [t0, t1, t2, .int 0, t4, t5, t6, t7, t8]))] := hD.sub [0, 1, 2] (by decide) rfl
  exact W.vret hx hb hr (fun t ht9 hW => ⟨⟨(), rfl, trivial, ⟨by rw [ht9]; exact hP9, hD9⟩⟩, hS.F ht9⟩) hS.2.2 dX2_hearLast_64
set_option maxHeartbeats 4000000 in
set_option maxRecDepth 100000 in
theorem c_wClear (l : Launch) (G : va_G) (cy : Nat → ClassId) (sz : Nat) (h : Nat) (v0 : Value) (v1 : Value) (v2 : Value) (v3 : Value) (v4 : Value) (v5 : Value)  : Met l yX10_clear (.code yX10_clear cX10_clear 1 none :: TBg) ({ frames := 1, cells := 0, slots := 0, locals := 64 }) (va_Pc [.ref h] (En G cy [(h, .inr (10, [v0, v1, v2, v3, v4, v5]))] sz)) (va_Qv (fun u : Unit => True) (fun u t => Ex G (va_A [(h, .inr (10, [v0, v1, v2, v3, v4, v5]))] sz) [(h, .inr (10, [v0, v1, v2, v3, v4, .int 0]))] t) (va_A [(h, .inr (10, [v0, v1, v2, v3, v4, v5]))] sz)) 0 0 (va_A [(h, .inr (10, [v0, v1, v2, v3, v4, v5]))] sz) := by
  refine Met.ofW (cc := cX10_clear) (maxL := 1) (ret := none) (by decide) rfl ?_
  intro p e s m args below meth c s₁ B hml hv
  obtain ⟨rfl, hsz, hP, hK, hD0, hN⟩ := hv
  have hx := B.exec
  have hb := B.bytes
  have hr := B.returns
  have hts := atoms_spec (ws := .code yX10_clear cX10_clear 1 none :: TBg) B.pre
  have ht : ∀ w ∈ TBg, w.before _ s = true := fun w h => hts w (List.mem_cons_of_mem _ h)
  have hown : s.vm.findClass RX10 = some m.cls := findClass_of_methodNamed B.named
  have hlocks := B.notSynchronized
  subst hsz
  have hD := hD0.self (sz := s.heap.size)
  generalize hAe : va_A [(h, .inr (10, [v0, v1, v2, v3, v4, v5]))] s.heap.size = A at hD ⊢
  have hA : ∀ q : Nat, s.heap.size ≤ q → A q := fun q h => by rw [← hAe]; exact Or.inr h
  have hS : va_S A s.heap s.heap [] := va_S.rf
  have hl := lv_entry ([.ref h]) (n := 1) (Nat.le_of_ble_eq_true rfl)
  rw [lg_entry_eq]
  generalize (lg_sl ([.ref h]) ++ List.replicate (1 - (lg_sl ([.ref h])).length) Slot.unset).toArray = ls at hl ⊢
  have hl : lv_has ls 1 [(0, .ref h)] := hl
  refine lv_aload_n hx hb dX10_clear_0 rfl (lv_at hl 0 rfl) ?_
  refine lv_iconst (v := 0) hx hb dX10_clear_1 (by decide) ?_
  refine va_put (ci := 10) (v := .int 0) (ty := .int) (C := RX10) (T := TX10) (N := 6) hx hb ht iX10 tyX10 tyX10_ok nmX10 hown hK hP hD hS 0 rfl rfl 5 (by decide) (ht _ k_137) (fun _ h9 => h9) rfl (by decide +kernel) rfl rfl (Nat.le_of_ble_eq_true rfl) dX10_clear_2 (fun H locs hP hD hS => ?_)
  have hP : va_P G vwCl [(h, .inr (10, [v0, v1, v2, v3, v4, .int 0]))] H := hP
  have hD : va_D A [(h, .inr (10, [v0, v1, v2, v3, v4, .int 0]))] := hD
  refine W.widen (k := 0) (n := 0) (Nat.le_of_ble_eq_true rfl) (Nat.le_of_ble_eq_true rfl) ?_
  have hP9 : va_P G vwCl [(h, .inr (10, [v0, v1, v2, v3, v4, .int 0]))] _ := hP.sub [0] rfl
  have hD9 : va_D A [(h, .inr (10, [v0, v1, v2, v3, v4, .int 0]))] := hD.sub [0] (by decide) rfl
  exact W.vret hx hb hr (fun t ht9 hW => ⟨⟨(), rfl, trivial, ⟨by rw [ht9]; exact hP9, hD9⟩⟩, hS.F ht9⟩) hS.2.2 dX10_clear_5
set_option maxHeartbeats 4000000 in
set_option maxRecDepth 100000 in
theorem c_takeBack (l : Launch) (G : va_G) (cy : Nat → ClassId) (sz : Nat) (h : Nat) (t : Int32) (t2 : Int32) (v0 : Value) (v1 : Value) (v2 : Value) (v3 : Value) (v4 : Value)  : Met l yX10_takeBack (.code yX10_takeBack cX10_takeBack 3 (some .boolean) :: TBg) ({ frames := 1, cells := 0, slots := 0, locals := 64 }) (va_Pc [.ref h, .int t, .int t2] (En G cy [(h, .inr (10, [v0, v1, v2, v3, v4, .int 0]))] sz)) (va_Qi (fun (r : Int32) (_ : Unit) => r = 0 ∧ True) (fun _ _ => True) (va_A [] sz)) 0 0 (va_A [] sz) := by
  refine Met.ofW (cc := cX10_takeBack) (maxL := 3) (ret := (some .boolean)) (by decide) rfl ?_
  intro p e s m args below meth c s₁ B hml hv
  obtain ⟨rfl, hsz, hP, hK, hD0, hN⟩ := hv
  have hx := B.exec
  have hb := B.bytes
  have hr := B.returns
  have hts := atoms_spec (ws := .code yX10_takeBack cX10_takeBack 3 (some .boolean) :: TBg) B.pre
  have ht : ∀ w ∈ TBg, w.before _ s = true := fun w h => hts w (List.mem_cons_of_mem _ h)
  have hown : s.vm.findClass RX10 = some m.cls := findClass_of_methodNamed B.named
  have hlocks := B.notSynchronized
  subst hsz
  generalize hAe : va_A [] s.heap.size = A at ⊢
  have hA : ∀ q : Nat, s.heap.size ≤ q → A q := fun q h => by rw [← hAe]; exact Or.inr h
  have hS : va_S A s.heap s.heap [] := va_S.rf
  have hl := lv_entry ([.ref h, .int t, .int t2]) (n := 3) (Nat.le_of_ble_eq_true rfl)
  rw [lg_entry_eq]
  generalize (lg_sl ([.ref h, .int t, .int t2]) ++ List.replicate (3 - (lg_sl ([.ref h, .int t, .int t2])).length) Slot.unset).toArray = ls at hl ⊢
  have hl : lv_has ls 3 [(0, .ref h), (1, .int t), (2, .int t2)] := hl
  refine lv_iload_n hx hb dX10_takeBack_0 rfl (lv_at hl 1 rfl) ?_
  refine lv_if_lt (tgt := 22) hx hb dX10_takeBack_1 (by decide) (fun c_1 => ?_) (fun c_1 => ?_)
  · skip
    refine lv_iconst (v := 0) hx hb dX10_takeBack_22 (by decide) ?_
    refine W.widen (k := 0) (n := 0) (Nat.le_of_ble_eq_true rfl) (Nat.le_of_ble_eq_true rfl) ?_
    exact W.zret (v := 0) hx hb hr (by first | rfl | decide) (fun t ht9 hW => ⟨⟨0, (), rfl, ⟨rfl, trivial⟩, trivial⟩, hS.F ht9⟩) hS.2.2 dX10_takeBack_23
  · skip
    refine lv_iload_n hx hb dX10_takeBack_4 rfl (lv_at hl 1 rfl) ?_
    refine lv_aload_n hx hb dX10_takeBack_5 rfl (lv_at hl 0 rfl) ?_
    refine va_get (ci := 10) (v := .int 0) (C := RX10) (T := TX10) (N := 6) hx hb ht iX10 hown hK hP 0 rfl rfl 5 (by decide) (ht _ k_137) (fun _ h9 => h9) rfl dX10_takeBack_6 ?_
    refine lv_icmp_ge (tgt := 22) hx hb dX10_takeBack_9 (by decide) (fun c_2 => ?_) (fun c_2 => ?_)
    · skip
      refine lv_iconst (v := 0) hx hb dX10_takeBack_22 (by decide) ?_
      refine W.widen (k := 0) (n := 0) (Nat.le_of_ble_eq_true rfl) (Nat.le_of_ble_eq_true rfl) ?_
      exact W.zret (v := 0) hx hb hr (by first | rfl | decide) (fun t ht9 hW => ⟨⟨0, (), rfl, ⟨rfl, trivial⟩, trivial⟩, hS.F ht9⟩) hS.2.2 dX10_takeBack_23
    · exfalso
      have z0 : (0 : Int32).toInt = 0 := (by decide); (try simp only [ow_lt, ow_le, ow_eq, true_and, and_true] at c_1 c_2); omega
set_option maxHeartbeats 4000000 in
set_option maxRecDepth 100000 in
theorem c_leftAt (l : Launch) (G : va_G) (cy : Nat → ClassId) (sz : Nat) (h : Nat) (t : Int32) (tw : Nat) (t0 : Value) (t1 : Value) (t2 : Value) (t4 : Value) (t5 : Value) (t6 : Value) (t7 : Value) (t8 : Value) (v0 : Value) (v1 : Value) (v2 : Value) (v3 : Value) (v4 : Value)  : Met l yX10_leftAt (.code yX10_leftAt cX10_leftAt 6 (some .int) :: TBg) ({ frames := 1, cells := 0, slots := 0, locals := 64 }) (va_Pc [.ref h, .int t, .ref tw] (En G cy [(h, .inr (10, [v0, v1, v2, v3, v4, .int 0])), (tw, .inr (9, [t0, t1, t2, .int 0, t4, t5, t6, t7, t8]))] sz)) (va_Qi (fun (r : Int32) (_ : Unit) => r = 0 ∧ True) (fun _ _ => True) (va_A [] sz)) 0 0 (va_A [] sz) := by
  refine Met.ofW (cc := cX10_leftAt) (maxL := 6) (ret := (some .int)) (by decide) rfl ?_
  intro p e s m args below meth c s₁ B hml hv
  obtain ⟨rfl, hsz, hP, hK, hD0, hN⟩ := hv
  have hx := B.exec
  have hb := B.bytes
  have hr := B.returns
  have hts := atoms_spec (ws := .code yX10_leftAt cX10_leftAt 6 (some .int) :: TBg) B.pre
  have ht : ∀ w ∈ TBg, w.before _ s = true := fun w h => hts w (List.mem_cons_of_mem _ h)
  have hown : s.vm.findClass RX10 = some m.cls := findClass_of_methodNamed B.named
  have hlocks := B.notSynchronized
  subst hsz
  generalize hAe : va_A [] s.heap.size = A at ⊢
  have hA : ∀ q : Nat, s.heap.size ≤ q → A q := fun q h => by rw [← hAe]; exact Or.inr h
  have hS : va_S A s.heap s.heap [] := va_S.rf
  have hl := lv_entry ([.ref h, .int t, .ref tw]) (n := 6) (Nat.le_of_ble_eq_true rfl)
  rw [lg_entry_eq]
  generalize (lg_sl ([.ref h, .int t, .ref tw]) ++ List.replicate (6 - (lg_sl ([.ref h, .int t, .ref tw])).length) Slot.unset).toArray = ls at hl ⊢
  have hl : lv_has ls 6 [(0, .ref h), (1, .int t), (2, .ref tw)] := hl
  refine lv_iconst (v := 1) hx hb dX10_leftAt_0 (by decide) ?_
  refine lv_aload_n hx hb dX10_leftAt_1 rfl (lv_at hl 2 rfl) ?_
  refine va_getN (host := "TuneLocks") (ci := 9) (v := .int 0) (C := RX9) (T := TX9) (N := 9) hx hb ht iX9 hown hK hP 1 rfl rfl 3 (by decide) (va_Nw.use rfl (hN.1 _ ns_57)) (fun _ h9 => h9) rfl dX10_leftAt_2 ?_
  refine lv_ishl hx hb dX10_leftAt_5 ?_
  refine ow_top 1 (by decide +kernel) ?_
  refine lv_iconst (v := 1) hx hb dX10_leftAt_6 (by decide) ?_
  refine lv_isub hx hb dX10_leftAt_7 ?_
  refine ow_top 0 (by decide +kernel) ?_
  refine lv_istore_n (lv' := [(3, .int 0), (0, .ref h), (1, .int t), (2, .ref tw)]) hx hb dX10_leftAt_8 rfl hl (by decide) rfl (fun ls hl => ?_)
  refine lv_iconst (v := 0) hx hb dX10_leftAt_9 (by decide) ?_
  refine lv_istore (lv' := [(4, .int 0), (3, .int 0), (0, .ref h), (1, .int t), (2, .ref tw)]) hx hb dX10_leftAt_10 hl (by decide) rfl (fun ls hl => ?_)
  refine lv_iload hx hb dX10_leftAt_12 (lv_at hl 0 rfl) ?_
  refine lv_aload_n hx hb dX10_leftAt_14 rfl (lv_at hl 2 rfl) ?_
  refine va_get (ci := 10) (v := .int 0) (C := RX10) (T := TX10) (N := 6) hx hb ht iX10 hown hK hP 0 rfl rfl 5 (by decide) (ht _ k_137) (fun _ h9 => h9) rfl dX10_leftAt_15 ?_
  refine lv_icmp_ge (tgt := 97) hx hb dX10_leftAt_18 (by decide) (fun _ => ?_) (fun c9 => absurd (by decide) c9)
  refine lv_iload_n hx hb dX10_leftAt_97 rfl (lv_at hl 1 rfl) ?_
  refine W.widen (k := 0) (n := 0) (Nat.le_of_ble_eq_true rfl) (Nat.le_of_ble_eq_true rfl) ?_
  exact W.iret (v := 0) hx hb hr (fun t ht9 hW => ⟨⟨0, (), rfl, ⟨rfl, trivial⟩, trivial⟩, hS.F ht9⟩) hS.2.2 dX10_leftAt_98
set_option maxHeartbeats 4000000 in
set_option maxRecDepth 100000 in
theorem c_pick (l : Launch) (G : va_G) (cy : Nat → ClassId) (sz : Nat) (h : Nat) (v0 : Value)  : Met l yX1_pick (.code yX1_pick cX1_pick 5 none :: TBg) ({ frames := 1, cells := 0, slots := 0, locals := 64 }) (va_Pc [.ref h, .int 0, .int 0, .int 0] (En G cy [(h, .inr (1, [v0, .int 0, .int (-1)]))] sz)) (va_Qv (fun u : Unit => True) (fun u t => Ex G (va_A [(h, .inr (1, [v0, .int 0, .int (-1)]))] sz) [(h, .inr (1, [v0, .int 0, .int 0]))] t) (va_A [(h, .inr (1, [v0, .int 0, .int (-1)]))] sz)) 0 0 (va_A [(h, .inr (1, [v0, .int 0, .int (-1)]))] sz) := by
  refine Met.ofW (cc := cX1_pick) (maxL := 5) (ret := none) (by decide) rfl ?_
  intro p e s m args below meth c s₁ B hml hv
  obtain ⟨rfl, hsz, hP, hK, hD0, hN⟩ := hv
  have hx := B.exec
  have hb := B.bytes
  have hr := B.returns
  have hts := atoms_spec (ws := .code yX1_pick cX1_pick 5 none :: TBg) B.pre
  have ht : ∀ w ∈ TBg, w.before _ s = true := fun w h => hts w (List.mem_cons_of_mem _ h)
  have hown : s.vm.findClass RX1 = some m.cls := findClass_of_methodNamed B.named
  have hlocks := B.notSynchronized
  subst hsz
  have hD := hD0.self (sz := s.heap.size)
  generalize hAe : va_A [(h, .inr (1, [v0, .int 0, .int (-1)]))] s.heap.size = A at hD ⊢
  have hA : ∀ q : Nat, s.heap.size ≤ q → A q := fun q h => by rw [← hAe]; exact Or.inr h
  have hS : va_S A s.heap s.heap [] := va_S.rf
  have hl := lv_entry ([.ref h, .int 0, .int 0, .int 0]) (n := 5) (Nat.le_of_ble_eq_true rfl)
  rw [lg_entry_eq]
  generalize (lg_sl ([.ref h, .int 0, .int 0, .int 0]) ++ List.replicate (5 - (lg_sl ([.ref h, .int 0, .int 0, .int 0])).length) Slot.unset).toArray = ls at hl ⊢
  have hl : lv_has ls 5 [(0, .ref h), (1, .int 0), (2, .int 0), (3, .int 0)] := hl
  refine lv_iload_n hx hb dX1_pick_0 rfl (lv_at hl 3 rfl) ?_
  refine lv_iload_n hx hb dX1_pick_1 rfl (lv_at hl 1 rfl) ?_
  refine lv_iadd hx hb dX1_pick_2 ?_
  refine ow_top 0 (by decide +kernel) ?_
  refine lv_aload_n hx hb dX1_pick_3 rfl (lv_at hl 0 rfl) ?_
  refine va_get (ci := 1) (v := .int (-1)) (C := RX1) (T := TX1) (N := 3) hx hb ht iX1 hown hK hP 0 rfl rfl 2 (by decide) (ht _ k_138) (fun _ h9 => h9) rfl dX1_pick_4 ?_
  refine lv_icmp_gt (tgt := 11) hx hb dX1_pick_7 (by decide) (fun _ => ?_) (fun c9 => absurd (by decide) c9)
  refine lv_iload_n hx hb dX1_pick_11 rfl (lv_at hl 1 rfl) ?_
  refine lv_iconst (v := 1) hx hb dX1_pick_12 (by decide) ?_
  refine lv_icmp_lt (tgt := 25) hx hb dX1_pick_13 (by decide) (fun _ => ?_) (fun c9 => absurd (by decide) c9)
  refine lv_aload_n hx hb dX1_pick_25 rfl (lv_at hl 0 rfl) ?_
  refine lv_iload_n hx hb dX1_pick_26 rfl (lv_at hl 2 rfl) ?_
  refine va_put (ci := 1) (v := .int 0) (ty := .int) (C := RX1) (T := TX1) (N := 3) hx hb ht iX1 tyX1 tyX1_ok nmX1 hown hK hP hD hS 0 rfl rfl 1 (by decide) (ht _ k_139) (fun _ h9 => h9) rfl (by decide +kernel) rfl rfl (Nat.le_of_ble_eq_true rfl) dX1_pick_27 (fun H locs hP hD hS => ?_)
  have hP : va_P G vwCl [(h, .inr (1, [v0, .int 0, .int (-1)]))] H := hP
  have hD : va_D A [(h, .inr (1, [v0, .int 0, .int (-1)]))] := hD
  refine lv_aload_n hx hb dX1_pick_30 rfl (lv_at hl 0 rfl) ?_
  refine lv_iload_n hx hb dX1_pick_31 rfl (lv_at hl 3 rfl) ?_
  refine va_put (ci := 1) (v := .int 0) (ty := .int) (C := RX1) (T := TX1) (N := 3) hx hb ht iX1 tyX1 tyX1_ok nmX1 hown hK hP hD hS 0 rfl rfl 2 (by decide) (ht _ k_138) (fun _ h9 => h9) rfl (by decide +kernel) rfl rfl (Nat.le_of_ble_eq_true rfl) dX1_pick_32 (fun H locs hP hD hS => ?_)
  have hP : va_P G vwCl [(h, .inr (1, [v0, .int 0, .int 0]))] H := hP
  have hD : va_D A [(h, .inr (1, [v0, .int 0, .int 0]))] := hD
  refine W.widen (k := 0) (n := 0) (Nat.le_of_ble_eq_true rfl) (Nat.le_of_ble_eq_true rfl) ?_
  have hP9 : va_P G vwCl [(h, .inr (1, [v0, .int 0, .int 0]))] _ := hP.sub [0] rfl
  have hD9 : va_D A [(h, .inr (1, [v0, .int 0, .int 0]))] := hD.sub [0] (by decide) rfl
  exact W.vret hx hb hr (fun t ht9 hW => ⟨⟨(), rfl, trivial, ⟨by rw [ht9]; exact hP9, hD9⟩⟩, hS.F ht9⟩) hS.2.2 dX1_pick_35
set_option maxHeartbeats 4000000 in
set_option maxRecDepth 100000 in
theorem c_choose (l : Launch) (G : va_G) (cy : Nat → ClassId) (sz : Nat) (h : Nat) (n : Int32) (tw : Nat) (t0 : Value) (t1 : Value) (t2 : Value) (t4 : Value) (t5 : Value) (t6 : Value) (t7 : Value) (t8 : Value) (v0 : Value) (v1 : Value) (v2 : Value)  : Met l yX1_choose (.code yX1_choose cX1_choose 5 (some .int) :: TBg) ({ frames := 2, cells := 0, slots := 0, locals := 128 }) (va_Pc [.ref h, .ref tw, .int n] (En G cy [(h, .inr (1, [v0, v1, v2])), (tw, .inr (9, [t0, t1, t2, .int 0, t4, t5, t6, t7, t8]))] sz)) (va_Qi (fun (r : Int32) (_ : Unit) => r = 0 ∧ True) (fun _ _ => True) (va_A [(h, .inr (1, [v0, v1, v2])), (tw, .inr (9, [t0, t1, t2, .int 0, t4, t5, t6, t7, t8]))] sz)) 0 0 (va_A [(h, .inr (1, [v0, v1, v2])), (tw, .inr (9, [t0, t1, t2, .int 0, t4, t5, t6, t7, t8]))] sz) := by
  refine Met.ofW (cc := cX1_choose) (maxL := 5) (ret := (some .int)) (by decide) rfl ?_
  intro p e s m args below meth c s₁ B hml hv
  obtain ⟨rfl, hsz, hP, hK, hD0, hN⟩ := hv
  have hx := B.exec
  have hb := B.bytes
  have hr := B.returns
  have hts := atoms_spec (ws := .code yX1_choose cX1_choose 5 (some .int) :: TBg) B.pre
  have ht : ∀ w ∈ TBg, w.before _ s = true := fun w h => hts w (List.mem_cons_of_mem _ h)
  have hown : s.vm.findClass RX1 = some m.cls := findClass_of_methodNamed B.named
  have hlocks := B.notSynchronized
  subst hsz
  have hD := hD0.self (sz := s.heap.size)
  generalize hAe : va_A [(h, .inr (1, [v0, v1, v2])), (tw, .inr (9, [t0, t1, t2, .int 0, t4, t5, t6, t7, t8]))] s.heap.size = A at hD ⊢
  have hA : ∀ q : Nat, s.heap.size ≤ q → A q := fun q h => by rw [← hAe]; exact Or.inr h
  have hS : va_S A s.heap s.heap [] := va_S.rf
  have hl := lv_entry ([.ref h, .ref tw, .int n]) (n := 5) (Nat.le_of_ble_eq_true rfl)
  rw [lg_entry_eq]
  generalize (lg_sl ([.ref h, .ref tw, .int n]) ++ List.replicate (5 - (lg_sl ([.ref h, .ref tw, .int n])).length) Slot.unset).toArray = ls at hl ⊢
  have hl : lv_has ls 5 [(0, .ref h), (1, .ref tw), (2, .int n)] := hl
  refine lv_iconst (v := 0) hx hb dX1_choose_0 (by decide) ?_
  refine lv_istore_n (lv' := [(3, .int 0), (0, .ref h), (1, .ref tw), (2, .int n)]) hx hb dX1_choose_1 rfl hl (by decide) rfl (fun ls hl => ?_)
  refine lv_iload_n hx hb dX1_choose_2 rfl (lv_at hl 0 rfl) ?_
  refine lv_aload_n hx hb dX1_choose_3 rfl (lv_at hl 2 rfl) ?_
  refine va_getN (host := "TuneLocks") (ci := 9) (v := .int 0) (C := RX9) (T := TX9) (N := 9) hx hb ht iX9 hown hK hP 1 rfl rfl 3 (by decide) (va_Nw.use rfl (hN.1 _ ns_23)) (fun _ h9 => h9) rfl dX1_choose_4 ?_
  refine lv_icmp_ge (tgt := 71) hx hb dX1_choose_7 (by decide) (fun _ => ?_) (fun c9 => absurd (by decide) c9)
  refine lv_aload_n hx hb dX1_choose_71 rfl (lv_at hl 1 rfl) ?_
  refine lv_iconst (v := 0) hx hb dX1_choose_72 (by decide) ?_
  refine va_put (ci := 1) (v := .int 0) (ty := .int) (C := RX1) (T := TX1) (N := 3) hx hb ht iX1 tyX1 tyX1_ok nmX1 hown hK hP hD hS 0 rfl rfl 1 (by decide) (ht _ k_139) (fun _ h9 => h9) rfl (by decide +kernel) rfl rfl (Nat.le_of_ble_eq_true rfl) dX1_choose_73 (fun H locs hP hD hS => ?_)
  have hP : va_P G vwCl [(h, .inr (1, [v0, .int 0, v2])), (tw, .inr (9, [t0, t1, t2, .int 0, t4, t5, t6, t7, t8]))] H := hP
  have hD : va_D A [(h, .inr (1, [v0, .int 0, v2])), (tw, .inr (9, [t0, t1, t2, .int 0, t4, t5, t6, t7, t8]))] := hD
  refine lv_aload_n hx hb dX1_choose_76 rfl (lv_at hl 1 rfl) ?_
  refine lv_iconst (v := (-1)) hx hb dX1_choose_77 (by decide) ?_
  refine va_put (ci := 1) (v := .int (-1)) (ty := .int) (C := RX1) (T := TX1) (N := 3) hx hb ht iX1 tyX1 tyX1_ok nmX1 hown hK hP hD hS 0 rfl rfl 2 (by decide) (ht _ k_138) (fun _ h9 => h9) rfl (by decide +kernel) rfl rfl (Nat.le_of_ble_eq_true rfl) dX1_choose_78 (fun H locs hP hD hS => ?_)
  have hP : va_P G vwCl [(h, .inr (1, [v0, .int 0, .int (-1)])), (tw, .inr (9, [t0, t1, t2, .int 0, t4, t5, t6, t7, t8]))] H := hP
  have hD : va_D A [(h, .inr (1, [v0, .int 0, .int (-1)])), (tw, .inr (9, [t0, t1, t2, .int 0, t4, t5, t6, t7, t8]))] := hD
  refine lv_aload_n hx hb dX1_choose_81 rfl (lv_at hl 1 rfl) ?_
  refine lv_aload_n hx hb dX1_choose_82 rfl (lv_at hl 2 rfl) ?_
  refine va_getN (host := "TuneLocks") (ci := 9) (v := .int 0) (C := RX9) (T := TX9) (N := 9) hx hb ht iX9 hown hK hP 1 rfl rfl 3 (by decide) (va_Nw.use rfl (hN.1 _ ns_23)) (fun _ h9 => h9) rfl dX1_choose_83 ?_
  refine lv_iconst (v := 0) hx hb dX1_choose_86 (by decide) ?_
  refine lv_iconst (v := 0) hx hb dX1_choose_87 (by decide) ?_
  have hFc := va_free (wc := [(h, .inr (1, [v0, .int 0, .int (-1)]))]) hD hS hA [0] rfl
  have hPc := hP.sub (ws' := [(h, .inr (1, [v0, .int 0, .int (-1)]))]) [0] rfl
  have hDc := hD.sub (ws' := [(h, .inr (1, [v0, .int 0, .int (-1)]))]) [0] (by decide) rfl
  refine va_callv (va_runS (As := [.ref h, .int 0, .int 0, .int 0]) (rest := []) ⟨hx, hb, hml, hown, ht⟩ (c_pick l G cy _ h (v0) ) (va_cwS 4 ht (gs k_141 k_142 k_102 k_140) rfl rfl rfl (by decide +kernel) ⟨Nat.le_of_ble_eq_true rfl, Nat.le_of_ble_eq_true rfl⟩) ⟨En.blind, fun U hU hW => ⟨rfl, En.of hU hW hPc hK hDc hN⟩⟩ rfl rfl hl.1 rfl (lv_room (Nat.le_of_ble_eq_true rfl)) dX1_choose_88 ⟨Nat.le_of_ble_eq_true rfl, Nat.le_of_ble_eq_true rfl⟩) hS (fun q _ h => hFc q h) hFc (fun u_1 t H locs ht9 hvm hw hB hz1 hk1 hS => ?_)
  obtain ⟨hP1, hD1⟩ := hB
  rw [ht9] at hP1
  obtain ⟨hP, hD⟩ := fr_put (wc := [(h, .inr (1, [v0, .int 0, .int (-1)]))]) (w1 := [(h, .inr (1, [v0, .int 0, .int 0]))]) hP hD [0] rfl rfl rfl hk1 hP1
  clear hFc hPc hDc hP1 hD1 hz1 hk1
  have hP : va_P G vwCl [(h, .inr (1, [v0, .int 0, .int 0])), (tw, .inr (9, [t0, t1, t2, .int 0, t4, t5, t6, t7, t8]))] H := hP
  have hD : va_D A [(h, .inr (1, [v0, .int 0, .int 0])), (tw, .inr (9, [t0, t1, t2, .int 0, t4, t5, t6, t7, t8]))] := hD
  refine lv_aload_n hx hb dX1_choose_91 rfl (lv_at hl 1 rfl) ?_
  refine va_get (ci := 1) (v := .int 0) (C := RX1) (T := TX1) (N := 3) hx hb ht iX1 hown hK hP 0 rfl rfl 1 (by decide) (ht _ k_139) (fun _ h9 => h9) rfl dX1_choose_92 ?_
  refine W.widen (k := 0) (n := 0) (Nat.le_of_ble_eq_true rfl) (Nat.le_of_ble_eq_true rfl) ?_
  exact W.iret (v := 0) hx hb hr (fun t ht9 hW => ⟨⟨0, (), rfl, ⟨rfl, trivial⟩, trivial⟩, hS.F ht9⟩) hS.2.2 dX1_choose_95
set_option maxHeartbeats 4000000 in
set_option maxRecDepth 100000 in
theorem c_layNext (l : Launch) (G : va_G) (cy : Nat → ClassId) (sz : Nat) (h : Nat) (r : Nat) (b : Nat) (f : Nat → Int32) (g : Nat → Int32) (v0 : Value) (v1 : Value) (v3 : Value)  : Met l yX3_layNext (.code yX3_layNext cX3_layNext 6 none :: TBg) ({ frames := 1, cells := 0, slots := 0, locals := 64 }) (va_Pc [.ref h, .int 0, .int 0, .int 0] (En G cy [(h, .inr (3, [v0, v1, .int 0, v3, .ref r, .ref b, .int 73])), (r, .inl (cy 0, 6, .inl f)), (b, .inl (cy 0, 6, .inl g))] sz)) (va_Qv (fun u : Nat → Nat → Int32 => True) (fun u t => Ex G (va_A [(h, .inr (3, [v0, v1, .int 0, v3, .ref r, .ref b, .int 73])), (r, .inl (cy 0, 6, .inl f)), (b, .inl (cy 0, 6, .inl g))] sz) [(h, .inr (3, [v0, v1, .int 0, v3, .ref r, .ref b, .int 0])), (r, .inl (cy 0, 6, .inl (u 0))), (b, .inl (cy 0, 6, .inl (u 1)))] t) (va_A [(h, .inr (3, [v0, v1, .int 0, v3, .ref r, .ref b, .int 73])), (r, .inl (cy 0, 6, .inl f)), (b, .inl (cy 0, 6, .inl g))] sz)) 0 0 (va_A [(h, .inr (3, [v0, v1, .int 0, v3, .ref r, .ref b, .int 73])), (r, .inl (cy 0, 6, .inl f)), (b, .inl (cy 0, 6, .inl g))] sz) := by
  refine Met.ofW (cc := cX3_layNext) (maxL := 6) (ret := none) (by decide) rfl ?_
  intro p e s m args below meth c s₁ B hml hv
  obtain ⟨rfl, hsz, hP, hK, hD0, hN⟩ := hv
  have hx := B.exec
  have hb := B.bytes
  have hr := B.returns
  have hts := atoms_spec (ws := .code yX3_layNext cX3_layNext 6 none :: TBg) B.pre
  have ht : ∀ w ∈ TBg, w.before _ s = true := fun w h => hts w (List.mem_cons_of_mem _ h)
  have hown : s.vm.findClass RX3 = some m.cls := findClass_of_methodNamed B.named
  have hlocks := B.notSynchronized
  subst hsz
  have hD := hD0.self (sz := s.heap.size)
  generalize hAe : va_A [(h, .inr (3, [v0, v1, .int 0, v3, .ref r, .ref b, .int 73])), (r, .inl (cy 0, 6, .inl f)), (b, .inl (cy 0, 6, .inl g))] s.heap.size = A at hD ⊢
  have hA : ∀ q : Nat, s.heap.size ≤ q → A q := fun q h => by rw [← hAe]; exact Or.inr h
  have hS : va_S A s.heap s.heap [] := va_S.rf
  have hl := lv_entry ([.ref h, .int 0, .int 0, .int 0]) (n := 6) (Nat.le_of_ble_eq_true rfl)
  rw [lg_entry_eq]
  generalize (lg_sl ([.ref h, .int 0, .int 0, .int 0]) ++ List.replicate (6 - (lg_sl ([.ref h, .int 0, .int 0, .int 0])).length) Slot.unset).toArray = ls at hl ⊢
  have hl : lv_has ls 6 [(0, .ref h), (1, .int 0), (2, .int 0), (3, .int 0)] := hl
  refine lv_iload_n hx hb dX3_layNext_0 rfl (lv_at hl 3 rfl) ?_
  refine lv_aload_n hx hb dX3_layNext_1 rfl (lv_at hl 0 rfl) ?_
  refine va_get (ci := 3) (v := .int 73) (C := RX3) (T := TX3) (N := 7) hx hb ht iX3 hown hK hP 0 rfl rfl 6 (by decide) (ht _ k_143) (fun _ h9 => h9) rfl dX3_layNext_2 ?_
  refine lv_icmp_lt (tgt := 9) hx hb dX3_layNext_5 (by decide) (fun _ => ?_) (fun c9 => absurd (by decide) c9)
  refine lv_iload_n hx hb dX3_layNext_9 rfl (lv_at hl 1 rfl) ?_
  refine lv_aload_n hx hb dX3_layNext_10 rfl (lv_at hl 0 rfl) ?_
  refine va_get (ci := 3) (v := .int 0) (C := RX3) (T := TX3) (N := 7) hx hb ht iX3 hown hK hP 0 rfl rfl 2 (by decide) (ht _ k_144) (fun _ h9 => h9) rfl dX3_layNext_11 ?_
  refine lv_icmp_ge (tgt := 23) hx hb dX3_layNext_14 (by decide) (fun _ => ?_) (fun c9 => absurd (by decide) c9)
  refine lv_aload_n hx hb dX3_layNext_23 rfl (lv_at hl 0 rfl) ?_
  refine lv_iload_n hx hb dX3_layNext_24 rfl (lv_at hl 3 rfl) ?_
  refine va_put (ci := 3) (v := .int 0) (ty := .int) (C := RX3) (T := TX3) (N := 7) hx hb ht iX3 tyX3 tyX3_ok nmX3 hown hK hP hD hS 0 rfl rfl 6 (by decide) (ht _ k_143) (fun _ h9 => h9) rfl (by decide +kernel) rfl rfl (Nat.le_of_ble_eq_true rfl) dX3_layNext_25 (fun H locs hP hD hS => ?_)
  have hP : va_P G vwCl [(h, .inr (3, [v0, v1, .int 0, v3, .ref r, .ref b, .int 0])), (r, .inl (cy 0, 6, .inl f)), (b, .inl (cy 0, 6, .inl g))] H := hP
  have hD : va_D A [(h, .inr (3, [v0, v1, .int 0, v3, .ref r, .ref b, .int 0])), (r, .inl (cy 0, 6, .inl f)), (b, .inl (cy 0, 6, .inl g))] := hD
  refine lv_aload_n hx hb dX3_layNext_28 rfl (lv_at hl 0 rfl) ?_
  refine va_get (ci := 3) (v := .ref r) (C := RX3) (T := TX3) (N := 7) hx hb ht iX3 hown hK hP 0 rfl rfl 4 (by decide) (ht _ k_36) (fun _ h9 => h9) rfl dX3_layNext_29 ?_
  refine lv_iconst (v := 0) hx hb dX3_layNext_32 (by decide) ?_
  refine lv_aload_n hx hb dX3_layNext_33 rfl (lv_at hl 0 rfl) ?_
  refine va_get (ci := 3) (v := .ref b) (C := RX3) (T := TX3) (N := 7) hx hb ht iX3 hown hK hP 0 rfl rfl 5 (by decide) (ht _ k_37) (fun _ h9 => h9) rfl dX3_layNext_34 ?_
  refine lv_iconst (v := 0) hx hb dX3_layNext_37 (by decide) ?_
  refine lv_bipush (v := 6) hx hb dX3_layNext_38 (by decide) ?_
  refine va_copyi (ty := .int) hx hb (by rw [hml]; exact hl.1.symm) hown (ht _ k_145) (ht _ k_133) (ht _ k_134) (ht _ k_135) hK hP hD hS 1 2 0 0 rfl rfl rfl rfl rfl (by decide) (by decide) (by decide) (Nat.le_of_ble_eq_true rfl) (Nat.le_of_ble_eq_true rfl) (fun _ _ => rfl) (Nat.le_of_ble_eq_true rfl) (Nat.le_of_ble_eq_true rfl) dX3_layNext_40 (fun H locs hP hD hS => ?_)
  obtain ⟨f_1, ef_1⟩ : ∃ g9 : Nat → Int32, g9 = va_cpy f g ((0 : Int32).toNatClampNeg) ((0 : Int32).toNatClampNeg) ((6 : Int32).toNatClampNeg) := ⟨_, rfl⟩
  rw [← ef_1] at hP hD
  have hP : va_P G vwCl [(h, .inr (3, [v0, v1, .int 0, v3, .ref r, .ref b, .int 0])), (r, .inl (cy 0, 6, .inl f)), (b, .inl (cy 0, 6, .inl f_1))] H := hP
  have hD : va_D A [(h, .inr (3, [v0, v1, .int 0, v3, .ref r, .ref b, .int 0])), (r, .inl (cy 0, 6, .inl f)), (b, .inl (cy 0, 6, .inl f_1))] := hD
  refine W.widen (k := 0) (n := 0) (Nat.le_of_ble_eq_true rfl) (Nat.le_of_ble_eq_true rfl) ?_
  have hP9 : va_P G vwCl [(h, .inr (3, [v0, v1, .int 0, v3, .ref r, .ref b, .int 0])), (r, .inl (cy 0, 6, .inl ((lsf [f, f_1]) 0))), (b, .inl (cy 0, 6, .inl ((lsf [f, f_1]) 1)))] _ := hP.sub [0, 1, 2] rfl
  have hD9 : va_D A [(h, .inr (3, [v0, v1, .int 0, v3, .ref r, .ref b, .int 0])), (r, .inl (cy 0, 6, .inl ((lsf [f, f_1]) 0))), (b, .inl (cy 0, 6, .inl ((lsf [f, f_1]) 1)))] := hD.sub [0, 1, 2] (by decide) rfl
  exact W.vret hx hb hr (fun t ht9 hW => ⟨⟨(lsf [f, f_1]), rfl, trivial, ⟨by rw [ht9]; exact hP9, hD9⟩⟩, hS.F ht9⟩) hS.2.2 dX3_layNext_43
set_option maxHeartbeats 4000000 in
set_option maxRecDepth 100000 in
theorem c_lay (l : Launch) (G : va_G) (cy : Nat → ClassId) (sz : Nat) (h : Nat) (r : Nat) (b : Nat) (f : Nat → Int32) (g : Nat → Int32) (tw : Nat) (t0 : Value) (t1 : Value) (t2 : Value) (t4 : Value) (t5 : Value) (t6 : Value) (t7 : Value) (t8 : Value) (v0 : Value) (v1 : Value) (v2 : Value) (v3 : Value) (v6 : Value)  : Met l yX3_lay (.code yX3_lay cX3_lay 5 none :: TBg) ({ frames := 2, cells := 0, slots := 0, locals := 128 }) (va_Pc [.ref h, .ref tw, .int 0] (En G cy [(h, .inr (3, [v0, v1, v2, v3, .ref r, .ref b, v6])), (r, .inl (cy 0, 6, .inl f)), (b, .inl (cy 0, 6, .inl g)), (tw, .inr (9, [t0, t1, t2, .int 0, t4, t5, t6, t7, t8]))] sz)) (va_Qv (fun u : Nat → Nat → Int32 => True) (fun u t => Ex G (va_A [(h, .inr (3, [v0, v1, v2, v3, .ref r, .ref b, v6])), (r, .inl (cy 0, 6, .inl f)), (b, .inl (cy 0, 6, .inl g)), (tw, .inr (9, [t0, t1, t2, .int 0, t4, t5, t6, t7, t8]))] sz) [(h, .inr (3, [v0, v1, .int 0, v3, .ref r, .ref b, .int 0])), (r, .inl (cy 0, 6, .inl (u 0))), (b, .inl (cy 0, 6, .inl (u 1))), (tw, .inr (9, [t0, t1, t2, .int 0, t4, t5, t6, t7, t8]))] t) (va_A [(h, .inr (3, [v0, v1, v2, v3, .ref r, .ref b, v6])), (r, .inl (cy 0, 6, .inl f)), (b, .inl (cy 0, 6, .inl g)), (tw, .inr (9, [t0, t1, t2, .int 0, t4, t5, t6, t7, t8]))] sz)) 0 0 (va_A [(h, .inr (3, [v0, v1, v2, v3, .ref r, .ref b, v6])), (r, .inl (cy 0, 6, .inl f)), (b, .inl (cy 0, 6, .inl g)), (tw, .inr (9, [t0, t1, t2, .int 0, t4, t5, t6, t7, t8]))] sz) := by
  refine Met.ofW (cc := cX3_lay) (maxL := 5) (ret := none) (by decide) rfl ?_
  intro p e s m args below meth c s₁ B hml hv
  obtain ⟨rfl, hsz, hP, hK, hD0, hN⟩ := hv
  have hx := B.exec
  have hb := B.bytes
  have hr := B.returns
  have hts := atoms_spec (ws := .code yX3_lay cX3_lay 5 none :: TBg) B.pre
  have ht : ∀ w ∈ TBg, w.before _ s = true := fun w h => hts w (List.mem_cons_of_mem _ h)
  have hown : s.vm.findClass RX3 = some m.cls := findClass_of_methodNamed B.named
  have hlocks := B.notSynchronized
  subst hsz
  have hD := hD0.self (sz := s.heap.size)
  generalize hAe : va_A [(h, .inr (3, [v0, v1, v2, v3, .ref r, .ref b, v6])), (r, .inl (cy 0, 6, .inl f)), (b, .inl (cy 0, 6, .inl g)), (tw, .inr (9, [t0, t1, t2, .int 0, t4, t5, t6, t7, t8]))] s.heap.size = A at hD ⊢
  have hA : ∀ q : Nat, s.heap.size ≤ q → A q := fun q h => by rw [← hAe]; exact Or.inr h
  have hS : va_S A s.heap s.heap [] := va_S.rf
  have hl := lv_entry ([.ref h, .ref tw, .int 0]) (n := 5) (Nat.le_of_ble_eq_true rfl)
  rw [lg_entry_eq]
  generalize (lg_sl ([.ref h, .ref tw, .int 0]) ++ List.replicate (5 - (lg_sl ([.ref h, .ref tw, .int 0])).length) Slot.unset).toArray = ls at hl ⊢
  have hl : lv_has ls 5 [(0, .ref h), (1, .ref tw), (2, .int 0)] := hl
  refine lv_aload_n hx hb dX3_lay_0 rfl (lv_at hl 0 rfl) ?_
  refine lv_iconst (v := 0) hx hb dX3_lay_1 (by decide) ?_
  refine va_put (ci := 3) (v := .int 0) (ty := .int) (C := RX3) (T := TX3) (N := 7) hx hb ht iX3 tyX3 tyX3_ok nmX3 hown hK hP hD hS 0 rfl rfl 2 (by decide) (ht _ k_144) (fun _ h9 => h9) rfl (by decide +kernel) rfl rfl (Nat.le_of_ble_eq_true rfl) dX3_lay_2 (fun H locs hP hD hS => ?_)
  have hP : va_P G vwCl [(h, .inr (3, [v0, v1, .int 0, v3, .ref r, .ref b, v6])), (r, .inl (cy 0, 6, .inl f)), (b, .inl (cy 0, 6, .inl g)), (tw, .inr (9, [t0, t1, t2, .int 0, t4, t5, t6, t7, t8]))] H := hP
  have hD : va_D A [(h, .inr (3, [v0, v1, .int 0, v3, .ref r, .ref b, v6])), (r, .inl (cy 0, 6, .inl f)), (b, .inl (cy 0, 6, .inl g)), (tw, .inr (9, [t0, t1, t2, .int 0, t4, t5, t6, t7, t8]))] := hD
  refine lv_iconst (v := 0) hx hb dX3_lay_5 (by decide) ?_
  refine lv_istore_n (lv' := [(3, .int 0), (0, .ref h), (1, .ref tw), (2, .int 0)]) hx hb dX3_lay_6 rfl hl (by decide) rfl (fun ls hl => ?_)
  refine lv_iload_n hx hb dX3_lay_7 rfl (lv_at hl 0 rfl) ?_
  refine lv_aload_n hx hb dX3_lay_8 rfl (lv_at hl 2 rfl) ?_
  refine va_getN (host := "TuneLocks") (ci := 9) (v := .int 0) (C := RX9) (T := TX9) (N := 9) hx hb ht iX9 hown hK hP 3 rfl rfl 3 (by decide) (va_Nw.use rfl (hN.1 _ ns_27)) (fun _ h9 => h9) rfl dX3_lay_9 ?_
  refine lv_icmp_ge (tgt := 85) hx hb dX3_lay_12 (by decide) (fun _ => ?_) (fun c9 => absurd (by decide) c9)
  refine lv_iconst (v := 0) hx hb dX3_lay_85 (by decide) ?_
  refine lv_istore_n (lv' := [(3, .int 0), (0, .ref h), (1, .ref tw), (2, .int 0)]) hx hb dX3_lay_86 rfl hl (by decide) rfl (fun ls hl => ?_)
  refine lv_iload_n hx hb dX3_lay_87 rfl (lv_at hl 0 rfl) ?_
  refine lv_aload_n hx hb dX3_lay_88 rfl (lv_at hl 1 rfl) ?_
  refine va_get (ci := 3) (v := .int 0) (C := RX3) (T := TX3) (N := 7) hx hb ht iX3 hown hK hP 0 rfl rfl 2 (by decide) (ht _ k_144) (fun _ h9 => h9) rfl dX3_lay_89 ?_
  refine lv_icmp_ge (tgt := 154) hx hb dX3_lay_92 (by decide) (fun _ => ?_) (fun c9 => absurd (by decide) c9)
  refine lv_aload_n hx hb dX3_lay_154 rfl (lv_at hl 1 rfl) ?_
  refine lv_bipush (v := 73) hx hb dX3_lay_155 (by decide) ?_
  refine va_put (ci := 3) (v := .int 73) (ty := .int) (C := RX3) (T := TX3) (N := 7) hx hb ht iX3 tyX3 tyX3_ok nmX3 hown hK hP hD hS 0 rfl rfl 6 (by decide) (ht _ k_143) (fun _ h9 => h9) rfl (by decide +kernel) rfl rfl (Nat.le_of_ble_eq_true rfl) dX3_lay_157 (fun H locs hP hD hS => ?_)
  have hP : va_P G vwCl [(h, .inr (3, [v0, v1, .int 0, v3, .ref r, .ref b, .int 73])), (r, .inl (cy 0, 6, .inl f)), (b, .inl (cy 0, 6, .inl g)), (tw, .inr (9, [t0, t1, t2, .int 0, t4, t5, t6, t7, t8]))] H := hP
  have hD : va_D A [(h, .inr (3, [v0, v1, .int 0, v3, .ref r, .ref b, .int 73])), (r, .inl (cy 0, 6, .inl f)), (b, .inl (cy 0, 6, .inl g)), (tw, .inr (9, [t0, t1, t2, .int 0, t4, t5, t6, t7, t8]))] := hD
  refine lv_aload_n hx hb dX3_lay_160 rfl (lv_at hl 1 rfl) ?_
  refine lv_iconst (v := 0) hx hb dX3_lay_161 (by decide) ?_
  refine lv_iconst (v := 0) hx hb dX3_lay_162 (by decide) ?_
  refine lv_iconst (v := 0) hx hb dX3_lay_163 (by decide) ?_
  have hFc := va_free (wc := [(h, .inr (3, [v0, v1, .int 0, v3, .ref r, .ref b, .int 73])), (r, .inl (cy 0, 6, .inl f)), (b, .inl (cy 0, 6, .inl g))]) hD hS hA [0, 1, 2] rfl
  have hPc := hP.sub (ws' := [(h, .inr (3, [v0, v1, .int 0, v3, .ref r, .ref b, .int 73])), (r, .inl (cy 0, 6, .inl f)), (b, .inl (cy 0, 6, .inl g))]) [0, 1, 2] rfl
  have hDc := hD.sub (ws' := [(h, .inr (3, [v0, v1, .int 0, v3, .ref r, .ref b, .int 73])), (r, .inl (cy 0, 6, .inl f)), (b, .inl (cy 0, 6, .inl g))]) [0, 1, 2] (by decide) rfl
  refine va_callv (va_runS (As := [.ref h, .int 0, .int 0, .int 0]) (rest := []) ⟨hx, hb, hml, hown, ht⟩ (c_layNext l G cy _ h r b f g (v0) (v1) (v3) ) (va_cwS 4 ht (gs k_147 k_148 k_108 k_146) rfl rfl rfl (by decide +kernel) ⟨Nat.le_of_ble_eq_true rfl, Nat.le_of_ble_eq_true rfl⟩) ⟨En.blind, fun U hU hW => ⟨rfl, En.of hU hW hPc hK hDc hN⟩⟩ rfl rfl hl.1 rfl (lv_room (Nat.le_of_ble_eq_true rfl)) dX3_lay_164 ⟨Nat.le_of_ble_eq_true rfl, Nat.le_of_ble_eq_true rfl⟩) hS (fun q _ h => hFc q h) hFc (fun u_1 t H locs ht9 hvm hw hB hz1 hk1 hS => ?_)
  obtain ⟨hP1, hD1⟩ := hB
  rw [ht9] at hP1
  obtain ⟨hP, hD⟩ := fr_put (wc := [(h, .inr (3, [v0, v1, .int 0, v3, .ref r, .ref b, .int 73])), (r, .inl (cy 0, 6, .inl f)), (b, .inl (cy 0, 6, .inl g))]) (w1 := [(h, .inr (3, [v0, v1, .int 0, v3, .ref r, .ref b, .int 0])), (r, .inl (cy 0, 6, .inl (u_1 0))), (b, .inl (cy 0, 6, .inl (u_1 1)))]) hP hD [0, 1, 2] rfl rfl rfl hk1 hP1
  clear hFc hPc hDc hP1 hD1 hz1 hk1
  have hP : va_P G vwCl [(h, .inr (3, [v0, v1, .int 0, v3, .ref r, .ref b, .int 0])), (r, .inl (cy 0, 6, .inl (u_1 0))), (b, .inl (cy 0, 6, .inl (u_1 1))), (tw, .inr (9, [t0, t1, t2, .int 0, t4, t5, t6, t7, t8]))] H := hP
  have hD : va_D A [(h, .inr (3, [v0, v1, .int 0, v3, .ref r, .ref b, .int 0])), (r, .inl (cy 0, 6, .inl (u_1 0))), (b, .inl (cy 0, 6, .inl (u_1 1))), (tw, .inr (9, [t0, t1, t2, .int 0, t4, t5, t6, t7, t8]))] := hD
  refine W.widen (k := 0) (n := 0) (Nat.le_of_ble_eq_true rfl) (Nat.le_of_ble_eq_true rfl) ?_
  have hP9 : va_P G vwCl [(h, .inr (3, [v0, v1, .int 0, v3, .ref r, .ref b, .int 0])), (r, .inl (cy 0, 6, .inl ((lsf [(u_1 0), (u_1 1)]) 0))), (b, .inl (cy 0, 6, .inl ((lsf [(u_1 0), (u_1 1)]) 1))), (tw, .inr (9, [t0, t1, t2, .int 0, t4, t5, t6, t7, t8]))] _ := hP.sub [0, 1, 2, 3] rfl
  have hD9 : va_D A [(h, .inr (3, [v0, v1, .int 0, v3, .ref r, .ref b, .int 0])), (r, .inl (cy 0, 6, .inl ((lsf [(u_1 0), (u_1 1)]) 0))), (b, .inl (cy 0, 6, .inl ((lsf [(u_1 0), (u_1 1)]) 1))), (tw, .inr (9, [t0, t1, t2, .int 0, t4, t5, t6, t7, t8]))] := hD.sub [0, 1, 2, 3] (by decide) rfl
  exact W.vret hx hb hr (fun t ht9 hW => ⟨⟨(lsf [(u_1 0), (u_1 1)]), rfl, trivial, ⟨by rw [ht9]; exact hP9, hD9⟩⟩, hS.F ht9⟩) hS.2.2 dX3_lay_167
set_option maxHeartbeats 4000000 in
set_option maxRecDepth 100000 in
theorem c_fewest (l : Launch) (G : va_G) (cy : Nat → ClassId) (sz : Nat) (h : Nat) (v0 : Value) (v1 : Value) (v2 : Value) (v3 : Value) (v4 : Value) (v5 : Value)  : Met l yX3_fewestNotes (.code yX3_fewestNotes cX3_fewestNotes 1 (some .int) :: TBg) ({ frames := 1, cells := 0, slots := 0, locals := 64 }) (va_Pc [.ref h] (En G cy [(h, .inr (3, [v0, v1, v2, v3, v4, v5, .int 0]))] sz)) (va_Qi (fun (r : Int32) (_ : Unit) => r = 0 ∧ True) (fun _ _ => True) (va_A [] sz)) 0 0 (va_A [] sz) := by
  refine Met.ofW (cc := cX3_fewestNotes) (maxL := 1) (ret := (some .int)) (by decide) rfl ?_
  intro p e s m args below meth c s₁ B hml hv
  obtain ⟨rfl, hsz, hP, hK, hD0, hN⟩ := hv
  have hx := B.exec
  have hb := B.bytes
  have hr := B.returns
  have hts := atoms_spec (ws := .code yX3_fewestNotes cX3_fewestNotes 1 (some .int) :: TBg) B.pre
  have ht : ∀ w ∈ TBg, w.before _ s = true := fun w h => hts w (List.mem_cons_of_mem _ h)
  have hown : s.vm.findClass RX3 = some m.cls := findClass_of_methodNamed B.named
  have hlocks := B.notSynchronized
  subst hsz
  generalize hAe : va_A [] s.heap.size = A at ⊢
  have hA : ∀ q : Nat, s.heap.size ≤ q → A q := fun q h => by rw [← hAe]; exact Or.inr h
  have hS : va_S A s.heap s.heap [] := va_S.rf
  have hl := lv_entry ([.ref h]) (n := 1) (Nat.le_of_ble_eq_true rfl)
  rw [lg_entry_eq]
  generalize (lg_sl ([.ref h]) ++ List.replicate (1 - (lg_sl ([.ref h])).length) Slot.unset).toArray = ls at hl ⊢
  have hl : lv_has ls 1 [(0, .ref h)] := hl
  refine lv_aload_n hx hb dX3_fewestNotes_0 rfl (lv_at hl 0 rfl) ?_
  refine va_get (ci := 3) (v := .int 0) (C := RX3) (T := TX3) (N := 7) hx hb ht iX3 hown hK hP 0 rfl rfl 6 (by decide) (ht _ k_143) (fun _ h9 => h9) rfl dX3_fewestNotes_1 ?_
  refine W.widen (k := 0) (n := 0) (Nat.le_of_ble_eq_true rfl) (Nat.le_of_ble_eq_true rfl) ?_
  exact W.iret (v := 0) hx hb hr (fun t ht9 hW => ⟨⟨0, (), rfl, ⟨rfl, trivial⟩, trivial⟩, hS.F ht9⟩) hS.2.2 dX3_fewestNotes_4
set_option maxHeartbeats 4000000 in
set_option maxRecDepth 100000 in
theorem c_laidAt (l : Launch) (G : va_G) (cy : Nat → ClassId) (sz : Nat) (h : Nat) (t : Int32) (v0 : Value) (v1 : Value) (v3 : Value) (v4 : Value) (v5 : Value) (v6 : Value)  : Met l yX3_laidAt (.code yX3_laidAt cX3_laidAt 2 (some .int) :: TBg) ({ frames := 1, cells := 0, slots := 0, locals := 64 }) (va_Pc [.ref h, .int t] (En G cy [(h, .inr (3, [v0, v1, .int 0, v3, v4, v5, v6]))] sz)) (va_Qi (fun (r : Int32) (_ : Unit) => r = (-1) ∧ True) (fun _ _ => True) (va_A [] sz)) 0 0 (va_A [] sz) := by
  refine Met.ofW (cc := cX3_laidAt) (maxL := 2) (ret := (some .int)) (by decide) rfl ?_
  intro p e s m args below meth c s₁ B hml hv
  obtain ⟨rfl, hsz, hP, hK, hD0, hN⟩ := hv
  have hx := B.exec
  have hb := B.bytes
  have hr := B.returns
  have hts := atoms_spec (ws := .code yX3_laidAt cX3_laidAt 2 (some .int) :: TBg) B.pre
  have ht : ∀ w ∈ TBg, w.before _ s = true := fun w h => hts w (List.mem_cons_of_mem _ h)
  have hown : s.vm.findClass RX3 = some m.cls := findClass_of_methodNamed B.named
  have hlocks := B.notSynchronized
  subst hsz
  generalize hAe : va_A [] s.heap.size = A at ⊢
  have hA : ∀ q : Nat, s.heap.size ≤ q → A q := fun q h => by rw [← hAe]; exact Or.inr h
  have hS : va_S A s.heap s.heap [] := va_S.rf
  have hl := lv_entry ([.ref h, .int t]) (n := 2) (Nat.le_of_ble_eq_true rfl)
  rw [lg_entry_eq]
  generalize (lg_sl ([.ref h, .int t]) ++ List.replicate (2 - (lg_sl ([.ref h, .int t])).length) Slot.unset).toArray = ls at hl ⊢
  have hl : lv_has ls 2 [(0, .ref h), (1, .int t)] := hl
  refine lv_iload_n hx hb dX3_laidAt_0 rfl (lv_at hl 1 rfl) ?_
  refine lv_if_lt (tgt := 26) hx hb dX3_laidAt_1 (by decide) (fun c_1 => ?_) (fun c_1 => ?_)
  · skip
    refine lv_iconst (v := (-1)) hx hb dX3_laidAt_26 (by decide) ?_
    refine W.widen (k := 0) (n := 0) (Nat.le_of_ble_eq_true rfl) (Nat.le_of_ble_eq_true rfl) ?_
    exact W.iret (v := (-1)) hx hb hr (fun t ht9 hW => ⟨⟨(-1), (), rfl, ⟨rfl, trivial⟩, trivial⟩, hS.F ht9⟩) hS.2.2 dX3_laidAt_27
  · skip
    refine lv_iload_n hx hb dX3_laidAt_4 rfl (lv_at hl 1 rfl) ?_
    refine lv_aload_n hx hb dX3_laidAt_5 rfl (lv_at hl 0 rfl) ?_
    refine va_get (ci := 3) (v := .int 0) (C := RX3) (T := TX3) (N := 7) hx hb ht iX3 hown hK hP 0 rfl rfl 2 (by decide) (ht _ k_144) (fun _ h9 => h9) rfl dX3_laidAt_6 ?_
    refine lv_icmp_ge (tgt := 26) hx hb dX3_laidAt_9 (by decide) (fun c_2 => ?_) (fun c_2 => ?_)
    · skip
      refine lv_iconst (v := (-1)) hx hb dX3_laidAt_26 (by decide) ?_
      refine W.widen (k := 0) (n := 0) (Nat.le_of_ble_eq_true rfl) (Nat.le_of_ble_eq_true rfl) ?_
      exact W.iret (v := (-1)) hx hb hr (fun t ht9 hW => ⟨⟨(-1), (), rfl, ⟨rfl, trivial⟩, trivial⟩, hS.F ht9⟩) hS.2.2 dX3_laidAt_27
    · exfalso
      have z0 : (0 : Int32).toInt = 0 := (by decide); (try simp only [ow_lt, ow_le, ow_eq, true_and, and_true] at c_1 c_2); omega
set_option maxHeartbeats 4000000 in
set_option maxRecDepth 100000 in
theorem c_bitCount (l : Launch) (G : va_G) (cy : Nat → ClassId) (sz : Nat)   : Met l yJ6_bitCount_0f7a4 (.code yJ6_bitCount_0f7a4 cJ6_bitCount_0f7a4 1 (some .int) :: TBg) ({ frames := 1, cells := 0, slots := 0, locals := 64 }) (va_Pc [.int 0] (En G cy [] sz)) (va_Qi (fun (r : Int32) (_ : Unit) => r = 0 ∧ True) (fun _ _ => True) (va_A [] sz)) 0 0 (va_A [] sz) := by
  refine Met.ofW (cc := cJ6_bitCount_0f7a4) (maxL := 1) (ret := (some .int)) (by decide) rfl ?_
  intro p e s m args below meth c s₁ B hml hv
  obtain ⟨rfl, hsz, hP, hK, hD0, hN⟩ := hv
  have hx := B.exec
  have hb := B.bytes
  have hr := B.returns
  have hts := atoms_spec (ws := .code yJ6_bitCount_0f7a4 cJ6_bitCount_0f7a4 1 (some .int) :: TBg) B.pre
  have ht : ∀ w ∈ TBg, w.before _ s = true := fun w h => hts w (List.mem_cons_of_mem _ h)
  have hown : s.vm.findClass RJ6 = some m.cls := findClass_of_methodNamed B.named
  have hlocks := B.notSynchronized
  subst hsz
  generalize hAe : va_A [] s.heap.size = A at ⊢
  have hA : ∀ q : Nat, s.heap.size ≤ q → A q := fun q h => by rw [← hAe]; exact Or.inr h
  have hS : va_S A s.heap s.heap [] := va_S.rf
  have hl := lv_entry ([.int 0]) (n := 1) (Nat.le_of_ble_eq_true rfl)
  rw [lg_entry_eq]
  generalize (lg_sl ([.int 0]) ++ List.replicate (1 - (lg_sl ([.int 0])).length) Slot.unset).toArray = ls at hl ⊢
  have hl : lv_has ls 1 [(0, .int 0)] := hl
  refine lv_iload_n hx hb dJ6_bitCount_0f7a4_0 rfl (lv_at hl 0 rfl) ?_
  refine lv_iload_n hx hb dJ6_bitCount_0f7a4_1 rfl (lv_at hl 0 rfl) ?_
  refine lv_iconst (v := 1) hx hb dJ6_bitCount_0f7a4_2 (by decide) ?_
  refine lv_iushr (v := 0) hx hb dJ6_bitCount_0f7a4_3 (by decide +kernel) ?_
  refine lv_ldcw (v := 1431655765) hx hb hown (ht _ k_149) dJ6_bitCount_0f7a4_4 ?_
  refine lv_iand hx hb dJ6_bitCount_0f7a4_7 ?_
  refine ow_top 0 (by decide +kernel) ?_
  refine lv_isub hx hb dJ6_bitCount_0f7a4_8 ?_
  refine ow_top 0 (by decide +kernel) ?_
  refine lv_istore_n (lv' := [(0, .int 0)]) hx hb dJ6_bitCount_0f7a4_9 rfl hl (by decide) rfl (fun ls hl => ?_)
  refine lv_iload_n hx hb dJ6_bitCount_0f7a4_10 rfl (lv_at hl 0 rfl) ?_
  refine lv_ldcw (v := 858993459) hx hb hown (ht _ k_150) dJ6_bitCount_0f7a4_11 ?_
  refine lv_iand hx hb dJ6_bitCount_0f7a4_14 ?_
  refine ow_top 0 (by decide +kernel) ?_
  refine lv_iload_n hx hb dJ6_bitCount_0f7a4_15 rfl (lv_at hl 0 rfl) ?_
  refine lv_iconst (v := 2) hx hb dJ6_bitCount_0f7a4_16 (by decide) ?_
  refine lv_iushr (v := 0) hx hb dJ6_bitCount_0f7a4_17 (by decide +kernel) ?_
  refine lv_ldcw (v := 858993459) hx hb hown (ht _ k_150) dJ6_bitCount_0f7a4_18 ?_
  refine lv_iand hx hb dJ6_bitCount_0f7a4_21 ?_
  refine ow_top 0 (by decide +kernel) ?_
  refine lv_iadd hx hb dJ6_bitCount_0f7a4_22 ?_
  refine ow_top 0 (by decide +kernel) ?_
  refine lv_istore_n (lv' := [(0, .int 0)]) hx hb dJ6_bitCount_0f7a4_23 rfl hl (by decide) rfl (fun ls hl => ?_)
  refine lv_iload_n hx hb dJ6_bitCount_0f7a4_24 rfl (lv_at hl 0 rfl) ?_
  refine lv_iload_n hx hb dJ6_bitCount_0f7a4_25 rfl (lv_at hl 0 rfl) ?_
  refine lv_iconst (v := 4) hx hb dJ6_bitCount_0f7a4_26 (by decide) ?_
  refine lv_iushr (v := 0) hx hb dJ6_bitCount_0f7a4_27 (by decide +kernel) ?_
  refine lv_iadd hx hb dJ6_bitCount_0f7a4_28 ?_
  refine ow_top 0 (by decide +kernel) ?_
  refine lv_ldcw (v := 252645135) hx hb hown (ht _ k_151) dJ6_bitCount_0f7a4_29 ?_
  refine lv_iand hx hb dJ6_bitCount_0f7a4_32 ?_
  refine ow_top 0 (by decide +kernel) ?_
  refine lv_istore_n (lv' := [(0, .int 0)]) hx hb dJ6_bitCount_0f7a4_33 rfl hl (by decide) rfl (fun ls hl => ?_)
  refine lv_iload_n hx hb dJ6_bitCount_0f7a4_34 rfl (lv_at hl 0 rfl) ?_
  refine lv_iload_n hx hb dJ6_bitCount_0f7a4_35 rfl (lv_at hl 0 rfl) ?_
  refine lv_bipush (v := 8) hx hb dJ6_bitCount_0f7a4_36 (by decide) ?_
  refine lv_iushr (v := 0) hx hb dJ6_bitCount_0f7a4_38 (by decide +kernel) ?_
  refine lv_iadd hx hb dJ6_bitCount_0f7a4_39 ?_
  refine ow_top 0 (by decide +kernel) ?_
  refine lv_istore_n (lv' := [(0, .int 0)]) hx hb dJ6_bitCount_0f7a4_40 rfl hl (by decide) rfl (fun ls hl => ?_)
  refine lv_iload_n hx hb dJ6_bitCount_0f7a4_41 rfl (lv_at hl 0 rfl) ?_
  refine lv_iload_n hx hb dJ6_bitCount_0f7a4_42 rfl (lv_at hl 0 rfl) ?_
  refine lv_bipush (v := 16) hx hb dJ6_bitCount_0f7a4_43 (by decide) ?_
  refine lv_iushr (v := 0) hx hb dJ6_bitCount_0f7a4_45 (by decide +kernel) ?_
  refine lv_iadd hx hb dJ6_bitCount_0f7a4_46 ?_
  refine ow_top 0 (by decide +kernel) ?_
  refine lv_istore_n (lv' := [(0, .int 0)]) hx hb dJ6_bitCount_0f7a4_47 rfl hl (by decide) rfl (fun ls hl => ?_)
  refine lv_iload_n hx hb dJ6_bitCount_0f7a4_48 rfl (lv_at hl 0 rfl) ?_
  refine lv_bipush (v := 63) hx hb dJ6_bitCount_0f7a4_49 (by decide) ?_
  refine lv_iand hx hb dJ6_bitCount_0f7a4_51 ?_
  refine ow_top 0 (by decide +kernel) ?_
  refine W.widen (k := 0) (n := 0) (Nat.le_of_ble_eq_true rfl) (Nat.le_of_ble_eq_true rfl) ?_
  exact W.iret (v := 0) hx hb hr (fun t ht9 hW => ⟨⟨0, (), rfl, ⟨rfl, trivial⟩, trivial⟩, hS.F ht9⟩) hS.2.2 dJ6_bitCount_0f7a4_52
set_option maxHeartbeats 4000000 in
set_option maxRecDepth 100000 in
theorem c_canBeSung (l : Launch) (G : va_G) (cy : Nat → ClassId) (sz : Nat) (t : Int32)  : Met l yX11_canBeSung (.code yX11_canBeSung cX11_canBeSung 1 (some .boolean) :: TBg) ({ frames := 1, cells := 0, slots := 0, locals := 64 }) (va_Pc [.int t] (En G cy [] sz)) (va_Qi (fun (r : Int32) (_ : Unit) => r = (if 0 ≤ t ∧ t ≤ 60 then 1 else 0) ∧ True) (fun _ _ => True) (va_A [] sz)) 0 0 (va_A [] sz) := by
  refine Met.ofW (cc := cX11_canBeSung) (maxL := 1) (ret := (some .boolean)) (by decide) rfl ?_
  intro p e s m args below meth c s₁ B hml hv
  obtain ⟨rfl, hsz, hP, hK, hD0, hN⟩ := hv
  have hx := B.exec
  have hb := B.bytes
  have hr := B.returns
  have hts := atoms_spec (ws := .code yX11_canBeSung cX11_canBeSung 1 (some .boolean) :: TBg) B.pre
  have ht : ∀ w ∈ TBg, w.before _ s = true := fun w h => hts w (List.mem_cons_of_mem _ h)
  have hown : s.vm.findClass RX11 = some m.cls := findClass_of_methodNamed B.named
  have hlocks := B.notSynchronized
  subst hsz
  generalize hAe : va_A [] s.heap.size = A at ⊢
  have hA : ∀ q : Nat, s.heap.size ≤ q → A q := fun q h => by rw [← hAe]; exact Or.inr h
  have hS : va_S A s.heap s.heap [] := va_S.rf
  have hl := lv_entry ([.int t]) (n := 1) (Nat.le_of_ble_eq_true rfl)
  rw [lg_entry_eq]
  generalize (lg_sl ([.int t]) ++ List.replicate (1 - (lg_sl ([.int t])).length) Slot.unset).toArray = ls at hl ⊢
  have hl : lv_has ls 1 [(0, .int t)] := hl
  refine lv_iload_n hx hb dX11_canBeSung_0 rfl (lv_at hl 0 rfl) ?_
  refine lv_if_lt (tgt := 14) hx hb dX11_canBeSung_1 (by decide) (fun c_1 => ?_) (fun c_1 => ?_)
  · skip
    refine lv_iconst (v := 0) hx hb dX11_canBeSung_14 (by decide) ?_
    refine W.widen (k := 0) (n := 0) (Nat.le_of_ble_eq_true rfl) (Nat.le_of_ble_eq_true rfl) ?_
    exact W.zret (v := 0) hx hb hr (by first | rfl | decide) (fun t ht9 hW => ⟨⟨0, (), rfl, ⟨(by have z0 : (0 : Int32).toInt = 0 := (by decide); have z1 : (60 : Int32).toInt = 60 := (by decide); split <;> first | rfl | (exfalso; rename_i hc9; (try simp only [ow_lt, ow_le, ow_eq, true_and, and_true] at hc9 c_1); omega)), trivial⟩, trivial⟩, hS.F ht9⟩) hS.2.2 dX11_canBeSung_15
  · skip
    refine lv_iload_n hx hb dX11_canBeSung_4 rfl (lv_at hl 0 rfl) ?_
    refine lv_bipush (v := 60) hx hb dX11_canBeSung_5 (by decide) ?_
    refine lv_icmp_gt (tgt := 14) hx hb dX11_canBeSung_7 (by decide) (fun c_2 => ?_) (fun c_2 => ?_)
    · skip
      refine lv_iconst (v := 0) hx hb dX11_canBeSung_14 (by decide) ?_
      refine W.widen (k := 0) (n := 0) (Nat.le_of_ble_eq_true rfl) (Nat.le_of_ble_eq_true rfl) ?_
      exact W.zret (v := 0) hx hb hr (by first | rfl | decide) (fun t ht9 hW => ⟨⟨0, (), rfl, ⟨(by have z0 : (0 : Int32).toInt = 0 := (by decide); have z1 : (60 : Int32).toInt = 60 := (by decide); split <;> first | rfl | (exfalso; rename_i hc9; (try simp only [ow_lt, ow_le, ow_eq, true_and, and_true] at hc9 c_1 c_2); omega)), trivial⟩, trivial⟩, hS.F ht9⟩) hS.2.2 dX11_canBeSung_15
    · skip
      refine lv_iconst (v := 1) hx hb dX11_canBeSung_10 (by decide) ?_
      refine lv_goto (tgt := 15) hx hb dX11_canBeSung_11 (by decide) ?_
      refine W.widen (k := 0) (n := 0) (Nat.le_of_ble_eq_true rfl) (Nat.le_of_ble_eq_true rfl) ?_
      exact W.zret (v := 1) hx hb hr (by first | rfl | decide) (fun t ht9 hW => ⟨⟨1, (), rfl, ⟨(by have z0 : (0 : Int32).toInt = 0 := (by decide); have z1 : (60 : Int32).toInt = 60 := (by decide); split <;> first | rfl | (exfalso; rename_i hc9; (try simp only [ow_lt, ow_le, ow_eq, true_and, and_true] at hc9 c_1 c_2); omega)), trivial⟩, trivial⟩, hS.F ht9⟩) hS.2.2 dX11_canBeSung_15
set_option maxHeartbeats 4000000 in
set_option maxRecDepth 100000 in
theorem c_Reader (l : Launch) (G : va_G) (cy : Nat → ClassId) (sz : Nat) (h : Nat) (tp : Nat) (tw : Nat) (f : Nat → Int32)  : Met l yX6_init (.code yX6_init cX6_init 4 none :: TBg) ({ frames := 1, cells := 0, slots := 0, locals := 64 }) (va_Pc [.ref h, .ref tp, .int 0, .ref tw] (En G cy [(h, .inr (6, [.null, .int 0, .null, .int 0, .int 0, .int 0, .int 0, .long 0, .int 0, .int 0, .int 0])), (tp, .inl (cy 1, 1700, .inl f))] sz)) (va_Qv (fun u : Unit => True) (fun u t => Ex G (va_A [(h, .inr (6, [.null, .int 0, .null, .int 0, .int 0, .int 0, .int 0, .long 0, .int 0, .int 0, .int 0])), (tp, .inl (cy 1, 1700, .inl f))] sz) [(h, .inr (6, [.ref tp, .int 0, .ref tw, .int 0, .int 0, .int 0, .int 0, .long 0, .int 0, .int 0, .int (-1)])), (tp, .inl (cy 1, 1700, .inl f))] t) (va_A [(h, .inr (6, [.null, .int 0, .null, .int 0, .int 0, .int 0, .int 0, .long 0, .int 0, .int 0, .int 0])), (tp, .inl (cy 1, 1700, .inl f))] sz)) 0 0 (va_A [(h, .inr (6, [.null, .int 0, .null, .int 0, .int 0, .int 0, .int 0, .long 0, .int 0, .int 0, .int 0])), (tp, .inl (cy 1, 1700, .inl f))] sz) := by
  refine Met.ofW (cc := cX6_init) (maxL := 4) (ret := none) (by decide) rfl ?_
  intro p e s m args below meth c s₁ B hml hv
  obtain ⟨rfl, hsz, hP, hK, hD0, hN⟩ := hv
  have hx := B.exec
  have hb := B.bytes
  have hr := B.returns
  have hts := atoms_spec (ws := .code yX6_init cX6_init 4 none :: TBg) B.pre
  have ht : ∀ w ∈ TBg, w.before _ s = true := fun w h => hts w (List.mem_cons_of_mem _ h)
  have hown : s.vm.findClass RX6 = some m.cls := findClass_of_methodNamed B.named
  have hlocks := B.notSynchronized
  have hin : meth.name = "<init>" := (name_of_methodNamed B.named B.method).1
  subst hsz
  have hD := hD0.self (sz := s.heap.size)
  generalize hAe : va_A [(h, .inr (6, [.null, .int 0, .null, .int 0, .int 0, .int 0, .int 0, .long 0, .int 0, .int 0, .int 0])), (tp, .inl (cy 1, 1700, .inl f))] s.heap.size = A at hD ⊢
  have hA : ∀ q : Nat, s.heap.size ≤ q → A q := fun q h => by rw [← hAe]; exact Or.inr h
  have hS : va_S A s.heap s.heap [] := va_S.rf
  have hl := lv_entry ([.ref h, .ref tp, .int 0, .ref tw]) (n := 4) (Nat.le_of_ble_eq_true rfl)
  rw [lg_entry_eq]
  generalize (lg_sl ([.ref h, .ref tp, .int 0, .ref tw]) ++ List.replicate (4 - (lg_sl ([.ref h, .ref tp, .int 0, .ref tw])).length) Slot.unset).toArray = ls at hl ⊢
  have hl : lv_has ls 4 [(0, .ref h), (1, .ref tp), (2, .int 0), (3, .ref tw)] := hl
  refine lv_aload_n hx hb dX6_init_0 rfl (lv_at hl 0 rfl) ?_
  refine W.objInit hx hb hown (ht _ k_152) (ht _ k_1) (ht _ k_2) rfl (by rw [hml]; exact hl.1) rfl dX6_init_1 (Nat.le_of_ble_eq_true rfl) (Nat.le_of_ble_eq_true rfl) ?_
  refine W.eq (g2 := F0 m 4 ls []) rfl ?_
  refine lv_aload_n hx hb dX6_init_4 rfl (lv_at hl 0 rfl) ?_
  refine lv_iconst (v := (-1)) hx hb dX6_init_5 (by decide) ?_
  refine va_put (ci := 6) (v := .int (-1)) (ty := .int) (C := RX6) (T := TX6) (N := 11) hx hb ht iX6 tyX6 tyX6_ok nmX6 hown hK hP hD hS 0 rfl rfl 10 (by decide) (ht _ k_153) (fun _ h9 => h9) rfl (by decide +kernel) rfl rfl (Nat.le_of_ble_eq_true rfl) dX6_init_6 (fun H locs hP hD hS => ?_)
  have hP : va_P G vwCl [(h, .inr (6, [.null, .int 0, .null, .int 0, .int 0, .int 0, .int 0, .long 0, .int 0, .int 0, .int (-1)])), (tp, .inl (cy 1, 1700, .inl f))] H := hP
  have hD : va_D A [(h, .inr (6, [.null, .int 0, .null, .int 0, .int 0, .int 0, .int 0, .long 0, .int 0, .int 0, .int (-1)])), (tp, .inl (cy 1, 1700, .inl f))] := hD
  refine lv_aload_n hx hb dX6_init_9 rfl (lv_at hl 0 rfl) ?_
  refine lv_aload_n hx hb dX6_init_10 rfl (lv_at hl 1 rfl) ?_
  refine va_putF (ci := 6) (v := .ref tp) (ty := .array (.byte)) (C := RX6) (T := TX6) (N := 11) hx hb ht iX6 tyX6 tyX6_ok nmX6 hown hK hP hD hS 0 rfl rfl 0 (by decide) (ht _ k_154) (fun _ h9 => h9) rfl hin rfl (by decide +kernel) rfl rfl (Nat.le_of_ble_eq_true rfl) dX6_init_11 (fun H locs hP hD hS => ?_)
  have hP : va_P G vwCl [(h, .inr (6, [.ref tp, .int 0, .null, .int 0, .int 0, .int 0, .int 0, .long 0, .int 0, .int 0, .int (-1)])), (tp, .inl (cy 1, 1700, .inl f))] H := hP
  have hD : va_D A [(h, .inr (6, [.ref tp, .int 0, .null, .int 0, .int 0, .int 0, .int 0, .long 0, .int 0, .int 0, .int (-1)])), (tp, .inl (cy 1, 1700, .inl f))] := hD
  refine lv_aload_n hx hb dX6_init_14 rfl (lv_at hl 0 rfl) ?_
  refine lv_iload_n hx hb dX6_init_15 rfl (lv_at hl 2 rfl) ?_
  refine lv_aload_n hx hb dX6_init_16 rfl (lv_at hl 1 rfl) ?_
  refine va_alen (v := 1700) hx hb hK hP 1 1 rfl rfl rfl dX6_init_17 ?_
  refine va_mmin hx hb (by rw [hml]; exact hl.1.symm) hown (ht _ k_155) (ht _ k_156) (ht _ k_27) (ht _ k_157) (Nat.le_of_ble_eq_true rfl) (Nat.le_of_ble_eq_true rfl) (Nat.le_of_ble_eq_true rfl) (Nat.le_of_ble_eq_true rfl) dX6_init_18 ?_
  refine ow_top 0 (by decide +kernel) ?_
  refine va_putF (ci := 6) (v := .int 0) (ty := .int) (C := RX6) (T := TX6) (N := 11) hx hb ht iX6 tyX6 tyX6_ok nmX6 hown hK hP hD hS 0 rfl rfl 1 (by decide) (ht _ k_158) (fun _ h9 => h9) rfl hin rfl (by decide +kernel) rfl rfl (Nat.le_of_ble_eq_true rfl) dX6_init_21 (fun H locs hP hD hS => ?_)
  have hP : va_P G vwCl [(h, .inr (6, [.ref tp, .int 0, .null, .int 0, .int 0, .int 0, .int 0, .long 0, .int 0, .int 0, .int (-1)])), (tp, .inl (cy 1, 1700, .inl f))] H := hP
  have hD : va_D A [(h, .inr (6, [.ref tp, .int 0, .null, .int 0, .int 0, .int 0, .int 0, .long 0, .int 0, .int 0, .int (-1)])), (tp, .inl (cy 1, 1700, .inl f))] := hD
  refine lv_aload_n hx hb dX6_init_24 rfl (lv_at hl 0 rfl) ?_
  refine lv_aload_n hx hb dX6_init_25 rfl (lv_at hl 3 rfl) ?_
  refine va_putF (ci := 6) (v := .ref tw) (ty := .object "TuneLocks$Town") (C := RX6) (T := TX6) (N := 11) hx hb ht iX6 tyX6 tyX6_ok nmX6 hown hK hP hD hS 0 rfl rfl 2 (by decide) (ht _ k_159) (fun _ h9 => h9) rfl hin rfl (by decide +kernel) rfl rfl (Nat.le_of_ble_eq_true rfl) dX6_init_26 (fun H locs hP hD hS => ?_)
  have hP : va_P G vwCl [(h, .inr (6, [.ref tp, .int 0, .ref tw, .int 0, .int 0, .int 0, .int 0, .long 0, .int 0, .int 0, .int (-1)])), (tp, .inl (cy 1, 1700, .inl f))] H := hP
  have hD : va_D A [(h, .inr (6, [.ref tp, .int 0, .ref tw, .int 0, .int 0, .int 0, .int 0, .long 0, .int 0, .int 0, .int (-1)])), (tp, .inl (cy 1, 1700, .inl f))] := hD
  refine W.widen (k := 0) (n := 0) (Nat.le_of_ble_eq_true rfl) (Nat.le_of_ble_eq_true rfl) ?_
  have hP9 : va_P G vwCl [(h, .inr (6, [.ref tp, .int 0, .ref tw, .int 0, .int 0, .int 0, .int 0, .long 0, .int 0, .int 0, .int (-1)])), (tp, .inl (cy 1, 1700, .inl f))] _ := hP.sub [0, 1] rfl
  have hD9 : va_D A [(h, .inr (6, [.ref tp, .int 0, .ref tw, .int 0, .int 0, .int 0, .int 0, .long 0, .int 0, .int 0, .int (-1)])), (tp, .inl (cy 1, 1700, .inl f))] := hD.sub [0, 1] (by decide) rfl
  exact W.vret hx hb hr (fun t ht9 hW => ⟨⟨(), rfl, trivial, ⟨by rw [ht9]; exact hP9, hD9⟩⟩, hS.F ht9⟩) hS.2.2 dX6_init_29
set_option maxHeartbeats 4000000 in
set_option maxRecDepth 100000 in
theorem c_takeToken (l : Launch) (G : va_G) (cy : Nat → ClassId) (sz : Nat) (h : Nat) (tp : Nat) (tw : Nat)  : Met l yX6_takeToken (.code yX6_takeToken cX6_takeToken 1 none :: TBg) ({ frames := 1, cells := 0, slots := 0, locals := 64 }) (va_Pc [.ref h] (En G cy [(h, .inr (6, [.ref tp, .int 0, .ref tw, .int 0, .int 0, .int 0, .int 0, .long 0, .int 0, .int 0, .int (-1)]))] sz)) (va_Qv (fun u : Unit => True) (fun u t => Ex G (va_A [(h, .inr (6, [.ref tp, .int 0, .ref tw, .int 0, .int 0, .int 0, .int 0, .long 0, .int 0, .int 0, .int (-1)]))] sz) [(h, .inr (6, [.ref tp, .int 0, .ref tw, .int 0, .int 17, .int 0, .int 0, .long 0, .int 0, .int 0, .int (-1)]))] t) (va_A [(h, .inr (6, [.ref tp, .int 0, .ref tw, .int 0, .int 0, .int 0, .int 0, .long 0, .int 0, .int 0, .int (-1)]))] sz)) 0 0 (va_A [(h, .inr (6, [.ref tp, .int 0, .ref tw, .int 0, .int 0, .int 0, .int 0, .long 0, .int 0, .int 0, .int (-1)]))] sz) := by
  refine Met.ofW (cc := cX6_takeToken) (maxL := 1) (ret := none) (by decide) rfl ?_
  intro p e s m args below meth c s₁ B hml hv
  obtain ⟨rfl, hsz, hP, hK, hD0, hN⟩ := hv
  have hx := B.exec
  have hb := B.bytes
  have hr := B.returns
  have hts := atoms_spec (ws := .code yX6_takeToken cX6_takeToken 1 none :: TBg) B.pre
  have ht : ∀ w ∈ TBg, w.before _ s = true := fun w h => hts w (List.mem_cons_of_mem _ h)
  have hown : s.vm.findClass RX6 = some m.cls := findClass_of_methodNamed B.named
  have hlocks := B.notSynchronized
  subst hsz
  have hD := hD0.self (sz := s.heap.size)
  generalize hAe : va_A [(h, .inr (6, [.ref tp, .int 0, .ref tw, .int 0, .int 0, .int 0, .int 0, .long 0, .int 0, .int 0, .int (-1)]))] s.heap.size = A at hD ⊢
  have hA : ∀ q : Nat, s.heap.size ≤ q → A q := fun q h => by rw [← hAe]; exact Or.inr h
  have hS : va_S A s.heap s.heap [] := va_S.rf
  have hl := lv_entry ([.ref h]) (n := 1) (Nat.le_of_ble_eq_true rfl)
  rw [lg_entry_eq]
  generalize (lg_sl ([.ref h]) ++ List.replicate (1 - (lg_sl ([.ref h])).length) Slot.unset).toArray = ls at hl ⊢
  have hl : lv_has ls 1 [(0, .ref h)] := hl
  refine lv_aload_n hx hb dX6_takeToken_0 rfl (lv_at hl 0 rfl) ?_
  refine va_get (ci := 6) (v := .int 0) (C := RX6) (T := TX6) (N := 11) hx hb ht iX6 hown hK hP 0 rfl rfl 3 (by decide) (ht _ k_160) (fun _ h9 => h9) rfl dX6_takeToken_1 ?_
  refine lv_aload_n hx hb dX6_takeToken_4 rfl (lv_at hl 0 rfl) ?_
  refine va_get (ci := 6) (v := .int 0) (C := RX6) (T := TX6) (N := 11) hx hb ht iX6 hown hK hP 0 rfl rfl 1 (by decide) (ht _ k_158) (fun _ h9 => h9) rfl dX6_takeToken_5 ?_
  refine lv_icmp_ge (tgt := 52) hx hb dX6_takeToken_8 (by decide) (fun _ => ?_) (fun c9 => absurd (by decide) c9)
  refine lv_aload_n hx hb dX6_takeToken_52 rfl (lv_at hl 0 rfl) ?_
  refine lv_aload_n hx hb dX6_takeToken_53 rfl (lv_at hl 0 rfl) ?_
  refine va_get (ci := 6) (v := .int 0) (C := RX6) (T := TX6) (N := 11) hx hb ht iX6 hown hK hP 0 rfl rfl 3 (by decide) (ht _ k_160) (fun _ h9 => h9) rfl dX6_takeToken_54 ?_
  refine va_put (ci := 6) (v := .int 0) (ty := .int) (C := RX6) (T := TX6) (N := 11) hx hb ht iX6 tyX6 tyX6_ok nmX6 hown hK hP hD hS 0 rfl rfl 5 (by decide) (ht _ k_161) (fun _ h9 => h9) rfl (by decide +kernel) rfl rfl (Nat.le_of_ble_eq_true rfl) dX6_takeToken_57 (fun H locs hP hD hS => ?_)
  have hP : va_P G vwCl [(h, .inr (6, [.ref tp, .int 0, .ref tw, .int 0, .int 0, .int 0, .int 0, .long 0, .int 0, .int 0, .int (-1)]))] H := hP
  have hD : va_D A [(h, .inr (6, [.ref tp, .int 0, .ref tw, .int 0, .int 0, .int 0, .int 0, .long 0, .int 0, .int 0, .int (-1)]))] := hD
  refine lv_aload_n hx hb dX6_takeToken_60 rfl (lv_at hl 0 rfl) ?_
  refine va_get (ci := 6) (v := .int 0) (C := RX6) (T := TX6) (N := 11) hx hb ht iX6 hown hK hP 0 rfl rfl 3 (by decide) (ht _ k_160) (fun _ h9 => h9) rfl dX6_takeToken_61 ?_
  refine lv_aload_n hx hb dX6_takeToken_64 rfl (lv_at hl 0 rfl) ?_
  refine va_get (ci := 6) (v := .int 0) (C := RX6) (T := TX6) (N := 11) hx hb ht iX6 hown hK hP 0 rfl rfl 1 (by decide) (ht _ k_158) (fun _ h9 => h9) rfl dX6_takeToken_65 ?_
  refine lv_icmp_lt (tgt := 80) hx hb dX6_takeToken_68 (by decide) (fun c9 => absurd c9 (by decide)) (fun _ => ?_)
  refine lv_aload_n hx hb dX6_takeToken_71 rfl (lv_at hl 0 rfl) ?_
  refine lv_bipush (v := 17) hx hb dX6_takeToken_72 (by decide) ?_
  refine va_put (ci := 6) (v := .int 17) (ty := .int) (C := RX6) (T := TX6) (N := 11) hx hb ht iX6 tyX6 tyX6_ok nmX6 hown hK hP hD hS 0 rfl rfl 4 (by decide) (ht _ k_162) (fun _ h9 => h9) rfl (by decide +kernel) rfl rfl (Nat.le_of_ble_eq_true rfl) dX6_takeToken_74 (fun H locs hP hD hS => ?_)
  have hP : va_P G vwCl [(h, .inr (6, [.ref tp, .int 0, .ref tw, .int 0, .int 17, .int 0, .int 0, .long 0, .int 0, .int 0, .int (-1)]))] H := hP
  have hD : va_D A [(h, .inr (6, [.ref tp, .int 0, .ref tw, .int 0, .int 17, .int 0, .int 0, .long 0, .int 0, .int 0, .int (-1)]))] := hD
  refine lv_goto (tgt := 176) hx hb dX6_takeToken_77 (by decide) ?_
  refine W.widen (k := 0) (n := 0) (Nat.le_of_ble_eq_true rfl) (Nat.le_of_ble_eq_true rfl) ?_
  have hP9 : va_P G vwCl [(h, .inr (6, [.ref tp, .int 0, .ref tw, .int 0, .int 17, .int 0, .int 0, .long 0, .int 0, .int 0, .int (-1)]))] _ := hP.sub [0] rfl
  have hD9 : va_D A [(h, .inr (6, [.ref tp, .int 0, .ref tw, .int 0, .int 17, .int 0, .int 0, .long 0, .int 0, .int 0, .int (-1)]))] := hD.sub [0] (by decide) rfl
  exact W.vret hx hb hr (fun t ht9 hW => ⟨⟨(), rfl, trivial, ⟨by rw [ht9]; exact hP9, hD9⟩⟩, hS.F ht9⟩) hS.2.2 dX6_takeToken_176
set_option maxHeartbeats 4000000 in
set_option maxRecDepth 100000 in
theorem c_townClear (l : Launch) (G : va_G) (cy : Nat → ClassId) (sz : Nat) (tw : Nat) (q : Nat) (sw : Nat) (t0 : Value) (t1 : Value) (t2 : Value) (t4 : Value) (w0 : Value) (w1 : Value) (w3 : Value) (w4 : Value) (f : Nat → Int32)  : Met l yX9_clear (.code yX9_clear cX9_clear 2 none :: TBg) ({ frames := 1, cells := 0, slots := 0, locals := 64 }) (va_Pc [.ref tw] (En G cy [(tw, .inr (9, [t0, t1, t2, .int 0, t4, .int 0, .ref q, .int 0, .ref sw])), (q, .inr (5, [w0, w1, .int 0, w3, w4])), (sw, .inl (cy 2, 12, .inl f))] sz)) (va_Qv (fun u : Nat → Nat → Int32 => True) (fun u t => Ex G (va_A [(tw, .inr (9, [t0, t1, t2, .int 0, t4, .int 0, .ref q, .int 0, .ref sw])), (q, .inr (5, [w0, w1, .int 0, w3, w4])), (sw, .inl (cy 2, 12, .inl f))] sz) [(tw, .inr (9, [t0, t1, t2, .int 0, t4, .int 0, .ref q, .int 0, .ref sw])), (q, .inr (5, [w0, w1, .int 0, w3, w4])), (sw, .inl (cy 2, 12, .inl (u 0)))] t) (va_A [(tw, .inr (9, [t0, t1, t2, .int 0, t4, .int 0, .ref q, .int 0, .ref sw])), (q, .inr (5, [w0, w1, .int 0, w3, w4])), (sw, .inl (cy 2, 12, .inl f))] sz)) 0 0 (va_A [(tw, .inr (9, [t0, t1, t2, .int 0, t4, .int 0, .ref q, .int 0, .ref sw])), (q, .inr (5, [w0, w1, .int 0, w3, w4])), (sw, .inl (cy 2, 12, .inl f))] sz) := by
  refine Met.ofW (cc := cX9_clear) (maxL := 2) (ret := none) (by decide) rfl ?_
  intro p e s m args below meth c s₁ B hml hv
  obtain ⟨rfl, hsz, hP, hK, hD0, hN⟩ := hv
  have hx := B.exec
  have hb := B.bytes
  have hr := B.returns
  have hts := atoms_spec (ws := .code yX9_clear cX9_clear 2 none :: TBg) B.pre
  have ht : ∀ w ∈ TBg, w.before _ s = true := fun w h => hts w (List.mem_cons_of_mem _ h)
  have hown : s.vm.findClass RX9 = some m.cls := findClass_of_methodNamed B.named
  have hlocks := B.notSynchronized
  subst hsz
  have hD := hD0.self (sz := s.heap.size)
  generalize hAe : va_A [(tw, .inr (9, [t0, t1, t2, .int 0, t4, .int 0, .ref q, .int 0, .ref sw])), (q, .inr (5, [w0, w1, .int 0, w3, w4])), (sw, .inl (cy 2, 12, .inl f))] s.heap.size = A at hD ⊢
  have hA : ∀ q : Nat, s.heap.size ≤ q → A q := fun q h => by rw [← hAe]; exact Or.inr h
  have hS : va_S A s.heap s.heap [] := va_S.rf
  have hl := lv_entry ([.ref tw]) (n := 2) (Nat.le_of_ble_eq_true rfl)
  rw [lg_entry_eq]
  generalize (lg_sl ([.ref tw]) ++ List.replicate (2 - (lg_sl ([.ref tw])).length) Slot.unset).toArray = ls at hl ⊢
  have hl : lv_has ls 2 [(0, .ref tw)] := hl
  refine lv_aload_n hx hb dX9_clear_0 rfl (lv_at hl 0 rfl) ?_
  refine lv_iconst (v := 0) hx hb dX9_clear_1 (by decide) ?_
  refine va_put (ci := 9) (v := .int 0) (ty := .int) (C := RX9) (T := TX9) (N := 9) hx hb ht iX9 tyX9 tyX9_ok nmX9 hown hK hP hD hS 0 rfl rfl 3 (by decide) (ht _ k_47) (fun _ h9 => h9) rfl (by decide +kernel) rfl rfl (Nat.le_of_ble_eq_true rfl) dX9_clear_2 (fun H locs hP hD hS => ?_)
  have hP : va_P G vwCl [(tw, .inr (9, [t0, t1, t2, .int 0, t4, .int 0, .ref q, .int 0, .ref sw])), (q, .inr (5, [w0, w1, .int 0, w3, w4])), (sw, .inl (cy 2, 12, .inl f))] H := hP
  have hD : va_D A [(tw, .inr (9, [t0, t1, t2, .int 0, t4, .int 0, .ref q, .int 0, .ref sw])), (q, .inr (5, [w0, w1, .int 0, w3, w4])), (sw, .inl (cy 2, 12, .inl f))] := hD
  refine lv_aload_n hx hb dX9_clear_5 rfl (lv_at hl 0 rfl) ?_
  refine lv_iconst (v := 0) hx hb dX9_clear_6 (by decide) ?_
  refine va_put (ci := 9) (v := .int 0) (ty := .int) (C := RX9) (T := TX9) (N := 9) hx hb ht iX9 tyX9 tyX9_ok nmX9 hown hK hP hD hS 0 rfl rfl 5 (by decide) (ht _ k_118) (fun _ h9 => h9) rfl (by decide +kernel) rfl rfl (Nat.le_of_ble_eq_true rfl) dX9_clear_7 (fun H locs hP hD hS => ?_)
  have hP : va_P G vwCl [(tw, .inr (9, [t0, t1, t2, .int 0, t4, .int 0, .ref q, .int 0, .ref sw])), (q, .inr (5, [w0, w1, .int 0, w3, w4])), (sw, .inl (cy 2, 12, .inl f))] H := hP
  have hD : va_D A [(tw, .inr (9, [t0, t1, t2, .int 0, t4, .int 0, .ref q, .int 0, .ref sw])), (q, .inr (5, [w0, w1, .int 0, w3, w4])), (sw, .inl (cy 2, 12, .inl f))] := hD
  refine lv_aload_n hx hb dX9_clear_10 rfl (lv_at hl 0 rfl) ?_
  refine lv_iconst (v := 0) hx hb dX9_clear_11 (by decide) ?_
  refine va_put (ci := 9) (v := .int 0) (ty := .int) (C := RX9) (T := TX9) (N := 9) hx hb ht iX9 tyX9 tyX9_ok nmX9 hown hK hP hD hS 0 rfl rfl 7 (by decide) (ht _ k_163) (fun _ h9 => h9) rfl (by decide +kernel) rfl rfl (Nat.le_of_ble_eq_true rfl) dX9_clear_12 (fun H locs hP hD hS => ?_)
  have hP : va_P G vwCl [(tw, .inr (9, [t0, t1, t2, .int 0, t4, .int 0, .ref q, .int 0, .ref sw])), (q, .inr (5, [w0, w1, .int 0, w3, w4])), (sw, .inl (cy 2, 12, .inl f))] H := hP
  have hD : va_D A [(tw, .inr (9, [t0, t1, t2, .int 0, t4, .int 0, .ref q, .int 0, .ref sw])), (q, .inr (5, [w0, w1, .int 0, w3, w4])), (sw, .inl (cy 2, 12, .inl f))] := hD
  refine lv_aload_n hx hb dX9_clear_15 rfl (lv_at hl 0 rfl) ?_
  refine va_get (ci := 9) (v := .ref q) (C := RX9) (T := TX9) (N := 9) hx hb ht iX9 hown hK hP 0 rfl rfl 6 (by decide) (ht _ k_62) (fun _ h9 => h9) rfl dX9_clear_16 ?_
  refine lv_iconst (v := 0) hx hb dX9_clear_19 (by decide) ?_
  refine va_putN (host := "TuneLocks") (ci := 5) (v := .int 0) (ty := .int) (C := RX5) (T := TX5) (N := 5) hx hb ht iX5 tyX5 tyX5_ok nmX5 hown hK hP hD hS 1 rfl rfl 2 (by decide) (va_Nw.use rfl (hN.1 _ ns_52)) (fun _ h9 => h9) rfl (by decide +kernel) rfl rfl (Nat.le_of_ble_eq_true rfl) dX9_clear_20 (fun H locs hP hD hS => ?_)
  have hP : va_P G vwCl [(tw, .inr (9, [t0, t1, t2, .int 0, t4, .int 0, .ref q, .int 0, .ref sw])), (q, .inr (5, [w0, w1, .int 0, w3, w4])), (sw, .inl (cy 2, 12, .inl f))] H := hP
  have hD : va_D A [(tw, .inr (9, [t0, t1, t2, .int 0, t4, .int 0, .ref q, .int 0, .ref sw])), (q, .inr (5, [w0, w1, .int 0, w3, w4])), (sw, .inl (cy 2, 12, .inl f))] := hD
  refine lv_iconst (v := 0) hx hb dX9_clear_23 (by decide) ?_
  refine lv_istore_n (lv' := [(1, .int 0), (0, .ref tw)]) hx hb dX9_clear_24 rfl hl (by decide) rfl (fun ls hl => ?_)
  refine lv_iload_n hx hb dX9_clear_25 rfl (lv_at hl 0 rfl) ?_
  refine lv_aload_n hx hb dX9_clear_26 rfl (lv_at hl 1 rfl) ?_
  refine va_get (ci := 9) (v := .ref sw) (C := RX9) (T := TX9) (N := 9) hx hb ht iX9 hown hK hP 0 rfl rfl 8 (by decide) (ht _ k_63) (fun _ h9 => h9) rfl dX9_clear_27 ?_
  refine va_alen (v := 12) hx hb hK hP 2 2 rfl rfl rfl dX9_clear_30 ?_
  refine lv_icmp_ge (tgt := 47) hx hb dX9_clear_31 (by decide) (fun c9 => absurd c9 (by decide)) (fun _ => ?_)
  refine lv_aload_n hx hb dX9_clear_34 rfl (lv_at hl 1 rfl) ?_
  refine va_get (ci := 9) (v := .ref sw) (C := RX9) (T := TX9) (N := 9) hx hb ht iX9 hown hK hP 0 rfl rfl 8 (by decide) (ht _ k_63) (fun _ h9 => h9) rfl dX9_clear_35 ?_
  refine lv_iload_n hx hb dX9_clear_38 rfl (lv_at hl 0 rfl) ?_
  refine lv_iconst (v := 0) hx hb dX9_clear_39 (by decide) ?_
  refine ow_zast hx hb hK hP hD hS 2 rfl (in_lit (by decide +kernel)) dX9_clear_40 (fun f_1 H locs hP hD hS => ?_)
  have hP : va_P G vwCl [(tw, .inr (9, [t0, t1, t2, .int 0, t4, .int 0, .ref q, .int 0, .ref sw])), (q, .inr (5, [w0, w1, .int 0, w3, w4])), (sw, .inl (cy 2, 12, .inl f_1))] H := hP
  have hD : va_D A [(tw, .inr (9, [t0, t1, t2, .int 0, t4, .int 0, .ref q, .int 0, .ref sw])), (q, .inr (5, [w0, w1, .int 0, w3, w4])), (sw, .inl (cy 2, 12, .inl f_1))] := hD
  refine lv_iinc (v := 1) (lv' := [(1, .int 1), (0, .ref tw)]) hx hb dX9_clear_41 hl (k := 0) rfl (by decide) (by decide) rfl (fun ls hl => ?_)
  refine lv_goto (tgt := 25) hx hb dX9_clear_44 (by decide) ?_
  refine lv_iload_n hx hb dX9_clear_25 rfl (lv_at hl 0 rfl) ?_
  refine lv_aload_n hx hb dX9_clear_26 rfl (lv_at hl 1 rfl) ?_
  refine va_get (ci := 9) (v := .ref sw) (C := RX9) (T := TX9) (N := 9) hx hb ht iX9 hown hK hP 0 rfl rfl 8 (by decide) (ht _ k_63) (fun _ h9 => h9) rfl dX9_clear_27 ?_
  refine va_alen (v := 12) hx hb hK hP 2 2 rfl rfl rfl dX9_clear_30 ?_
  refine lv_icmp_ge (tgt := 47) hx hb dX9_clear_31 (by decide) (fun c9 => absurd c9 (by decide)) (fun _ => ?_)
  refine lv_aload_n hx hb dX9_clear_34 rfl (lv_at hl 1 rfl) ?_
  refine va_get (ci := 9) (v := .ref sw) (C := RX9) (T := TX9) (N := 9) hx hb ht iX9 hown hK hP 0 rfl rfl 8 (by decide) (ht _ k_63) (fun _ h9 => h9) rfl dX9_clear_35 ?_
  refine lv_iload_n hx hb dX9_clear_38 rfl (lv_at hl 0 rfl) ?_
  refine lv_iconst (v := 0) hx hb dX9_clear_39 (by decide) ?_
  refine ow_zast hx hb hK hP hD hS 2 rfl (in_lit (by decide +kernel)) dX9_clear_40 (fun f_2 H locs hP hD hS => ?_)
  have hP : va_P G vwCl [(tw, .inr (9, [t0, t1, t2, .int 0, t4, .int 0, .ref q, .int 0, .ref sw])), (q, .inr (5, [w0, w1, .int 0, w3, w4])), (sw, .inl (cy 2, 12, .inl f_2))] H := hP
  have hD : va_D A [(tw, .inr (9, [t0, t1, t2, .int 0, t4, .int 0, .ref q, .int 0, .ref sw])), (q, .inr (5, [w0, w1, .int 0, w3, w4])), (sw, .inl (cy 2, 12, .inl f_2))] := hD
  refine lv_iinc (v := 2) (lv' := [(1, .int 2), (0, .ref tw)]) hx hb dX9_clear_41 hl (k := 0) rfl (by decide) (by decide) rfl (fun ls hl => ?_)
  refine lv_goto (tgt := 25) hx hb dX9_clear_44 (by decide) ?_
  refine lv_iload_n hx hb dX9_clear_25 rfl (lv_at hl 0 rfl) ?_
  refine lv_aload_n hx hb dX9_clear_26 rfl (lv_at hl 1 rfl) ?_
  refine va_get (ci := 9) (v := .ref sw) (C := RX9) (T := TX9) (N := 9) hx hb ht iX9 hown hK hP 0 rfl rfl 8 (by decide) (ht _ k_63) (fun _ h9 => h9) rfl dX9_clear_27 ?_
  refine va_alen (v := 12) hx hb hK hP 2 2 rfl rfl rfl dX9_clear_30 ?_
  refine lv_icmp_ge (tgt := 47) hx hb dX9_clear_31 (by decide) (fun c9 => absurd c9 (by decide)) (fun _ => ?_)
  refine lv_aload_n hx hb dX9_clear_34 rfl (lv_at hl 1 rfl) ?_
  refine va_get (ci := 9) (v := .ref sw) (C := RX9) (T := TX9) (N := 9) hx hb ht iX9 hown hK hP 0 rfl rfl 8 (by decide) (ht _ k_63) (fun _ h9 => h9) rfl dX9_clear_35 ?_
  refine lv_iload_n hx hb dX9_clear_38 rfl (lv_at hl 0 rfl) ?_
  refine lv_iconst (v := 0) hx hb dX9_clear_39 (by decide) ?_
  refine ow_zast hx hb hK hP hD hS 2 rfl (in_lit (by decide +kernel)) dX9_clear_40 (fun f_3 H locs hP hD hS => ?_)
  have hP : va_P G vwCl [(tw, .inr (9, [t0, t1, t2, .int 0, t4, .int 0, .ref q, .int 0, .ref sw])), (q, .inr (5, [w0, w1, .int 0, w3, w4])), (sw, .inl (cy 2, 12, .inl f_3))] H := hP
  have hD : va_D A [(tw, .inr (9, [t0, t1, t2, .int 0, t4, .int 0, .ref q, .int 0, .ref sw])), (q, .inr (5, [w0, w1, .int 0, w3, w4])), (sw, .inl (cy 2, 12, .inl f_3))] := hD
  refine lv_iinc (v := 3) (lv' := [(1, .int 3), (0, .ref tw)]) hx hb dX9_clear_41 hl (k := 0) rfl (by decide) (by decide) rfl (fun ls hl => ?_)
  refine lv_goto (tgt := 25) hx hb dX9_clear_44 (by decide) ?_
  refine lv_iload_n hx hb dX9_clear_25 rfl (lv_at hl 0 rfl) ?_
  refine lv_aload_n hx hb dX9_clear_26 rfl (lv_at hl 1 rfl) ?_
  refine va_get (ci := 9) (v := .ref sw) (C := RX9) (T := TX9) (N := 9) hx hb ht iX9 hown hK hP 0 rfl rfl 8 (by decide) (ht _ k_63) (fun _ h9 => h9) rfl dX9_clear_27 ?_
  refine va_alen (v := 12) hx hb hK hP 2 2 rfl rfl rfl dX9_clear_30 ?_
  refine lv_icmp_ge (tgt := 47) hx hb dX9_clear_31 (by decide) (fun c9 => absurd c9 (by decide)) (fun _ => ?_)
  refine lv_aload_n hx hb dX9_clear_34 rfl (lv_at hl 1 rfl) ?_
  refine va_get (ci := 9) (v := .ref sw) (C := RX9) (T := TX9) (N := 9) hx hb ht iX9 hown hK hP 0 rfl rfl 8 (by decide) (ht _ k_63) (fun _ h9 => h9) rfl dX9_clear_35 ?_
  refine lv_iload_n hx hb dX9_clear_38 rfl (lv_at hl 0 rfl) ?_
  refine lv_iconst (v := 0) hx hb dX9_clear_39 (by decide) ?_
  refine ow_zast hx hb hK hP hD hS 2 rfl (in_lit (by decide +kernel)) dX9_clear_40 (fun f_4 H locs hP hD hS => ?_)
  have hP : va_P G vwCl [(tw, .inr (9, [t0, t1, t2, .int 0, t4, .int 0, .ref q, .int 0, .ref sw])), (q, .inr (5, [w0, w1, .int 0, w3, w4])), (sw, .inl (cy 2, 12, .inl f_4))] H := hP
  have hD : va_D A [(tw, .inr (9, [t0, t1, t2, .int 0, t4, .int 0, .ref q, .int 0, .ref sw])), (q, .inr (5, [w0, w1, .int 0, w3, w4])), (sw, .inl (cy 2, 12, .inl f_4))] := hD
  refine lv_iinc (v := 4) (lv' := [(1, .int 4), (0, .ref tw)]) hx hb dX9_clear_41 hl (k := 0) rfl (by decide) (by decide) rfl (fun ls hl => ?_)
  refine lv_goto (tgt := 25) hx hb dX9_clear_44 (by decide) ?_
  refine lv_iload_n hx hb dX9_clear_25 rfl (lv_at hl 0 rfl) ?_
  refine lv_aload_n hx hb dX9_clear_26 rfl (lv_at hl 1 rfl) ?_
  refine va_get (ci := 9) (v := .ref sw) (C := RX9) (T := TX9) (N := 9) hx hb ht iX9 hown hK hP 0 rfl rfl 8 (by decide) (ht _ k_63) (fun _ h9 => h9) rfl dX9_clear_27 ?_
  refine va_alen (v := 12) hx hb hK hP 2 2 rfl rfl rfl dX9_clear_30 ?_
  refine lv_icmp_ge (tgt := 47) hx hb dX9_clear_31 (by decide) (fun c9 => absurd c9 (by decide)) (fun _ => ?_)
  refine lv_aload_n hx hb dX9_clear_34 rfl (lv_at hl 1 rfl) ?_
  refine va_get (ci := 9) (v := .ref sw) (C := RX9) (T := TX9) (N := 9) hx hb ht iX9 hown hK hP 0 rfl rfl 8 (by decide) (ht _ k_63) (fun _ h9 => h9) rfl dX9_clear_35 ?_
  refine lv_iload_n hx hb dX9_clear_38 rfl (lv_at hl 0 rfl) ?_
  refine lv_iconst (v := 0) hx hb dX9_clear_39 (by decide) ?_
  refine ow_zast hx hb hK hP hD hS 2 rfl (in_lit (by decide +kernel)) dX9_clear_40 (fun f_5 H locs hP hD hS => ?_)
  have hP : va_P G vwCl [(tw, .inr (9, [t0, t1, t2, .int 0, t4, .int 0, .ref q, .int 0, .ref sw])), (q, .inr (5, [w0, w1, .int 0, w3, w4])), (sw, .inl (cy 2, 12, .inl f_5))] H := hP
  have hD : va_D A [(tw, .inr (9, [t0, t1, t2, .int 0, t4, .int 0, .ref q, .int 0, .ref sw])), (q, .inr (5, [w0, w1, .int 0, w3, w4])), (sw, .inl (cy 2, 12, .inl f_5))] := hD
  refine lv_iinc (v := 5) (lv' := [(1, .int 5), (0, .ref tw)]) hx hb dX9_clear_41 hl (k := 0) rfl (by decide) (by decide) rfl (fun ls hl => ?_)
  refine lv_goto (tgt := 25) hx hb dX9_clear_44 (by decide) ?_
  refine lv_iload_n hx hb dX9_clear_25 rfl (lv_at hl 0 rfl) ?_
  refine lv_aload_n hx hb dX9_clear_26 rfl (lv_at hl 1 rfl) ?_
  refine va_get (ci := 9) (v := .ref sw) (C := RX9) (T := TX9) (N := 9) hx hb ht iX9 hown hK hP 0 rfl rfl 8 (by decide) (ht _ k_63) (fun _ h9 => h9) rfl dX9_clear_27 ?_
  refine va_alen (v := 12) hx hb hK hP 2 2 rfl rfl rfl dX9_clear_30 ?_
  refine lv_icmp_ge (tgt := 47) hx hb dX9_clear_31 (by decide) (fun c9 => absurd c9 (by decide)) (fun _ => ?_)
  refine lv_aload_n hx hb dX9_clear_34 rfl (lv_at hl 1 rfl) ?_
  refine va_get (ci := 9) (v := .ref sw) (C := RX9) (T := TX9) (N := 9) hx hb ht iX9 hown hK hP 0 rfl rfl 8 (by decide) (ht _ k_63) (fun _ h9 => h9) rfl dX9_clear_35 ?_
  refine lv_iload_n hx hb dX9_clear_38 rfl (lv_at hl 0 rfl) ?_
  refine lv_iconst (v := 0) hx hb dX9_clear_39 (by decide) ?_
  refine ow_zast hx hb hK hP hD hS 2 rfl (in_lit (by decide +kernel)) dX9_clear_40 (fun f_6 H locs hP hD hS => ?_)
  have hP : va_P G vwCl [(tw, .inr (9, [t0, t1, t2, .int 0, t4, .int 0, .ref q, .int 0, .ref sw])), (q, .inr (5, [w0, w1, .int 0, w3, w4])), (sw, .inl (cy 2, 12, .inl f_6))] H := hP
  have hD : va_D A [(tw, .inr (9, [t0, t1, t2, .int 0, t4, .int 0, .ref q, .int 0, .ref sw])), (q, .inr (5, [w0, w1, .int 0, w3, w4])), (sw, .inl (cy 2, 12, .inl f_6))] := hD
  refine lv_iinc (v := 6) (lv' := [(1, .int 6), (0, .ref tw)]) hx hb dX9_clear_41 hl (k := 0) rfl (by decide) (by decide) rfl (fun ls hl => ?_)
  refine lv_goto (tgt := 25) hx hb dX9_clear_44 (by decide) ?_
  refine lv_iload_n hx hb dX9_clear_25 rfl (lv_at hl 0 rfl) ?_
  refine lv_aload_n hx hb dX9_clear_26 rfl (lv_at hl 1 rfl) ?_
  refine va_get (ci := 9) (v := .ref sw) (C := RX9) (T := TX9) (N := 9) hx hb ht iX9 hown hK hP 0 rfl rfl 8 (by decide) (ht _ k_63) (fun _ h9 => h9) rfl dX9_clear_27 ?_
  refine va_alen (v := 12) hx hb hK hP 2 2 rfl rfl rfl dX9_clear_30 ?_
  refine lv_icmp_ge (tgt := 47) hx hb dX9_clear_31 (by decide) (fun c9 => absurd c9 (by decide)) (fun _ => ?_)
  refine lv_aload_n hx hb dX9_clear_34 rfl (lv_at hl 1 rfl) ?_
  refine va_get (ci := 9) (v := .ref sw) (C := RX9) (T := TX9) (N := 9) hx hb ht iX9 hown hK hP 0 rfl rfl 8 (by decide) (ht _ k_63) (fun _ h9 => h9) rfl dX9_clear_35 ?_
  refine lv_iload_n hx hb dX9_clear_38 rfl (lv_at hl 0 rfl) ?_
  refine lv_iconst (v := 0) hx hb dX9_clear_39 (by decide) ?_
  refine ow_zast hx hb hK hP hD hS 2 rfl (in_lit (by decide +kernel)) dX9_clear_40 (fun f_7 H locs hP hD hS => ?_)
  have hP : va_P G vwCl [(tw, .inr (9, [t0, t1, t2, .int 0, t4, .int 0, .ref q, .int 0, .ref sw])), (q, .inr (5, [w0, w1, .int 0, w3, w4])), (sw, .inl (cy 2, 12, .inl f_7))] H := hP
  have hD : va_D A [(tw, .inr (9, [t0, t1, t2, .int 0, t4, .int 0, .ref q, .int 0, .ref sw])), (q, .inr (5, [w0, w1, .int 0, w3, w4])), (sw, .inl (cy 2, 12, .inl f_7))] := hD
  refine lv_iinc (v := 7) (lv' := [(1, .int 7), (0, .ref tw)]) hx hb dX9_clear_41 hl (k := 0) rfl (by decide) (by decide) rfl (fun ls hl => ?_)
  refine lv_goto (tgt := 25) hx hb dX9_clear_44 (by decide) ?_
  refine lv_iload_n hx hb dX9_clear_25 rfl (lv_at hl 0 rfl) ?_
  refine lv_aload_n hx hb dX9_clear_26 rfl (lv_at hl 1 rfl) ?_
  refine va_get (ci := 9) (v := .ref sw) (C := RX9) (T := TX9) (N := 9) hx hb ht iX9 hown hK hP 0 rfl rfl 8 (by decide) (ht _ k_63) (fun _ h9 => h9) rfl dX9_clear_27 ?_
  refine va_alen (v := 12) hx hb hK hP 2 2 rfl rfl rfl dX9_clear_30 ?_
  refine lv_icmp_ge (tgt := 47) hx hb dX9_clear_31 (by decide) (fun c9 => absurd c9 (by decide)) (fun _ => ?_)
  refine lv_aload_n hx hb dX9_clear_34 rfl (lv_at hl 1 rfl) ?_
  refine va_get (ci := 9) (v := .ref sw) (C := RX9) (T := TX9) (N := 9) hx hb ht iX9 hown hK hP 0 rfl rfl 8 (by decide) (ht _ k_63) (fun _ h9 => h9) rfl dX9_clear_35 ?_
  refine lv_iload_n hx hb dX9_clear_38 rfl (lv_at hl 0 rfl) ?_
  refine lv_iconst (v := 0) hx hb dX9_clear_39 (by decide) ?_
  refine ow_zast hx hb hK hP hD hS 2 rfl (in_lit (by decide +kernel)) dX9_clear_40 (fun f_8 H locs hP hD hS => ?_)
  have hP : va_P G vwCl [(tw, .inr (9, [t0, t1, t2, .int 0, t4, .int 0, .ref q, .int 0, .ref sw])), (q, .inr (5, [w0, w1, .int 0, w3, w4])), (sw, .inl (cy 2, 12, .inl f_8))] H := hP
  have hD : va_D A [(tw, .inr (9, [t0, t1, t2, .int 0, t4, .int 0, .ref q, .int 0, .ref sw])), (q, .inr (5, [w0, w1, .int 0, w3, w4])), (sw, .inl (cy 2, 12, .inl f_8))] := hD
  refine lv_iinc (v := 8) (lv' := [(1, .int 8), (0, .ref tw)]) hx hb dX9_clear_41 hl (k := 0) rfl (by decide) (by decide) rfl (fun ls hl => ?_)
  refine lv_goto (tgt := 25) hx hb dX9_clear_44 (by decide) ?_
  refine lv_iload_n hx hb dX9_clear_25 rfl (lv_at hl 0 rfl) ?_
  refine lv_aload_n hx hb dX9_clear_26 rfl (lv_at hl 1 rfl) ?_
  refine va_get (ci := 9) (v := .ref sw) (C := RX9) (T := TX9) (N := 9) hx hb ht iX9 hown hK hP 0 rfl rfl 8 (by decide) (ht _ k_63) (fun _ h9 => h9) rfl dX9_clear_27 ?_
  refine va_alen (v := 12) hx hb hK hP 2 2 rfl rfl rfl dX9_clear_30 ?_
  refine lv_icmp_ge (tgt := 47) hx hb dX9_clear_31 (by decide) (fun c9 => absurd c9 (by decide)) (fun _ => ?_)
  refine lv_aload_n hx hb dX9_clear_34 rfl (lv_at hl 1 rfl) ?_
  refine va_get (ci := 9) (v := .ref sw) (C := RX9) (T := TX9) (N := 9) hx hb ht iX9 hown hK hP 0 rfl rfl 8 (by decide) (ht _ k_63) (fun _ h9 => h9) rfl dX9_clear_35 ?_
  refine lv_iload_n hx hb dX9_clear_38 rfl (lv_at hl 0 rfl) ?_
  refine lv_iconst (v := 0) hx hb dX9_clear_39 (by decide) ?_
  refine ow_zast hx hb hK hP hD hS 2 rfl (in_lit (by decide +kernel)) dX9_clear_40 (fun f_9 H locs hP hD hS => ?_)
  have hP : va_P G vwCl [(tw, .inr (9, [t0, t1, t2, .int 0, t4, .int 0, .ref q, .int 0, .ref sw])), (q, .inr (5, [w0, w1, .int 0, w3, w4])), (sw, .inl (cy 2, 12, .inl f_9))] H := hP
  have hD : va_D A [(tw, .inr (9, [t0, t1, t2, .int 0, t4, .int 0, .ref q, .int 0, .ref sw])), (q, .inr (5, [w0, w1, .int 0, w3, w4])), (sw, .inl (cy 2, 12, .inl f_9))] := hD
  refine lv_iinc (v := 9) (lv' := [(1, .int 9), (0, .ref tw)]) hx hb dX9_clear_41 hl (k := 0) rfl (by decide) (by decide) rfl (fun ls hl => ?_)
  refine lv_goto (tgt := 25) hx hb dX9_clear_44 (by decide) ?_
  refine lv_iload_n hx hb dX9_clear_25 rfl (lv_at hl 0 rfl) ?_
  refine lv_aload_n hx hb dX9_clear_26 rfl (lv_at hl 1 rfl) ?_
  refine va_get (ci := 9) (v := .ref sw) (C := RX9) (T := TX9) (N := 9) hx hb ht iX9 hown hK hP 0 rfl rfl 8 (by decide) (ht _ k_63) (fun _ h9 => h9) rfl dX9_clear_27 ?_
  refine va_alen (v := 12) hx hb hK hP 2 2 rfl rfl rfl dX9_clear_30 ?_
  refine lv_icmp_ge (tgt := 47) hx hb dX9_clear_31 (by decide) (fun c9 => absurd c9 (by decide)) (fun _ => ?_)
  refine lv_aload_n hx hb dX9_clear_34 rfl (lv_at hl 1 rfl) ?_
  refine va_get (ci := 9) (v := .ref sw) (C := RX9) (T := TX9) (N := 9) hx hb ht iX9 hown hK hP 0 rfl rfl 8 (by decide) (ht _ k_63) (fun _ h9 => h9) rfl dX9_clear_35 ?_
  refine lv_iload_n hx hb dX9_clear_38 rfl (lv_at hl 0 rfl) ?_
  refine lv_iconst (v := 0) hx hb dX9_clear_39 (by decide) ?_
  refine ow_zast hx hb hK hP hD hS 2 rfl (in_lit (by decide +kernel)) dX9_clear_40 (fun f_10 H locs hP hD hS => ?_)
  have hP : va_P G vwCl [(tw, .inr (9, [t0, t1, t2, .int 0, t4, .int 0, .ref q, .int 0, .ref sw])), (q, .inr (5, [w0, w1, .int 0, w3, w4])), (sw, .inl (cy 2, 12, .inl f_10))] H := hP
  have hD : va_D A [(tw, .inr (9, [t0, t1, t2, .int 0, t4, .int 0, .ref q, .int 0, .ref sw])), (q, .inr (5, [w0, w1, .int 0, w3, w4])), (sw, .inl (cy 2, 12, .inl f_10))] := hD
  refine lv_iinc (v := 10) (lv' := [(1, .int 10), (0, .ref tw)]) hx hb dX9_clear_41 hl (k := 0) rfl (by decide) (by decide) rfl (fun ls hl => ?_)
  refine lv_goto (tgt := 25) hx hb dX9_clear_44 (by decide) ?_
  refine lv_iload_n hx hb dX9_clear_25 rfl (lv_at hl 0 rfl) ?_
  refine lv_aload_n hx hb dX9_clear_26 rfl (lv_at hl 1 rfl) ?_
  refine va_get (ci := 9) (v := .ref sw) (C := RX9) (T := TX9) (N := 9) hx hb ht iX9 hown hK hP 0 rfl rfl 8 (by decide) (ht _ k_63) (fun _ h9 => h9) rfl dX9_clear_27 ?_
  refine va_alen (v := 12) hx hb hK hP 2 2 rfl rfl rfl dX9_clear_30 ?_
  refine lv_icmp_ge (tgt := 47) hx hb dX9_clear_31 (by decide) (fun c9 => absurd c9 (by decide)) (fun _ => ?_)
  refine lv_aload_n hx hb dX9_clear_34 rfl (lv_at hl 1 rfl) ?_
  refine va_get (ci := 9) (v := .ref sw) (C := RX9) (T := TX9) (N := 9) hx hb ht iX9 hown hK hP 0 rfl rfl 8 (by decide) (ht _ k_63) (fun _ h9 => h9) rfl dX9_clear_35 ?_
  refine lv_iload_n hx hb dX9_clear_38 rfl (lv_at hl 0 rfl) ?_
  refine lv_iconst (v := 0) hx hb dX9_clear_39 (by decide) ?_
  refine ow_zast hx hb hK hP hD hS 2 rfl (in_lit (by decide +kernel)) dX9_clear_40 (fun f_11 H locs hP hD hS => ?_)
  have hP : va_P G vwCl [(tw, .inr (9, [t0, t1, t2, .int 0, t4, .int 0, .ref q, .int 0, .ref sw])), (q, .inr (5, [w0, w1, .int 0, w3, w4])), (sw, .inl (cy 2, 12, .inl f_11))] H := hP
  have hD : va_D A [(tw, .inr (9, [t0, t1, t2, .int 0, t4, .int 0, .ref q, .int 0, .ref sw])), (q, .inr (5, [w0, w1, .int 0, w3, w4])), (sw, .inl (cy 2, 12, .inl f_11))] := hD
  refine lv_iinc (v := 11) (lv' := [(1, .int 11), (0, .ref tw)]) hx hb dX9_clear_41 hl (k := 0) rfl (by decide) (by decide) rfl (fun ls hl => ?_)
  refine lv_goto (tgt := 25) hx hb dX9_clear_44 (by decide) ?_
  refine lv_iload_n hx hb dX9_clear_25 rfl (lv_at hl 0 rfl) ?_
  refine lv_aload_n hx hb dX9_clear_26 rfl (lv_at hl 1 rfl) ?_
  refine va_get (ci := 9) (v := .ref sw) (C := RX9) (T := TX9) (N := 9) hx hb ht iX9 hown hK hP 0 rfl rfl 8 (by decide) (ht _ k_63) (fun _ h9 => h9) rfl dX9_clear_27 ?_
  refine va_alen (v := 12) hx hb hK hP 2 2 rfl rfl rfl dX9_clear_30 ?_
  refine lv_icmp_ge (tgt := 47) hx hb dX9_clear_31 (by decide) (fun c9 => absurd c9 (by decide)) (fun _ => ?_)
  refine lv_aload_n hx hb dX9_clear_34 rfl (lv_at hl 1 rfl) ?_
  refine va_get (ci := 9) (v := .ref sw) (C := RX9) (T := TX9) (N := 9) hx hb ht iX9 hown hK hP 0 rfl rfl 8 (by decide) (ht _ k_63) (fun _ h9 => h9) rfl dX9_clear_35 ?_
  refine lv_iload_n hx hb dX9_clear_38 rfl (lv_at hl 0 rfl) ?_
  refine lv_iconst (v := 0) hx hb dX9_clear_39 (by decide) ?_
  refine ow_zast hx hb hK hP hD hS 2 rfl (in_lit (by decide +kernel)) dX9_clear_40 (fun f_12 H locs hP hD hS => ?_)
  have hP : va_P G vwCl [(tw, .inr (9, [t0, t1, t2, .int 0, t4, .int 0, .ref q, .int 0, .ref sw])), (q, .inr (5, [w0, w1, .int 0, w3, w4])), (sw, .inl (cy 2, 12, .inl f_12))] H := hP
  have hD : va_D A [(tw, .inr (9, [t0, t1, t2, .int 0, t4, .int 0, .ref q, .int 0, .ref sw])), (q, .inr (5, [w0, w1, .int 0, w3, w4])), (sw, .inl (cy 2, 12, .inl f_12))] := hD
  refine lv_iinc (v := 12) (lv' := [(1, .int 12), (0, .ref tw)]) hx hb dX9_clear_41 hl (k := 0) rfl (by decide) (by decide) rfl (fun ls hl => ?_)
  refine lv_goto (tgt := 25) hx hb dX9_clear_44 (by decide) ?_
  refine lv_iload_n hx hb dX9_clear_25 rfl (lv_at hl 0 rfl) ?_
  refine lv_aload_n hx hb dX9_clear_26 rfl (lv_at hl 1 rfl) ?_
  refine va_get (ci := 9) (v := .ref sw) (C := RX9) (T := TX9) (N := 9) hx hb ht iX9 hown hK hP 0 rfl rfl 8 (by decide) (ht _ k_63) (fun _ h9 => h9) rfl dX9_clear_27 ?_
  refine va_alen (v := 12) hx hb hK hP 2 2 rfl rfl rfl dX9_clear_30 ?_
  refine lv_icmp_ge (tgt := 47) hx hb dX9_clear_31 (by decide) (fun _ => ?_) (fun c9 => absurd (by decide) c9)
  refine W.widen (k := 0) (n := 0) (Nat.le_of_ble_eq_true rfl) (Nat.le_of_ble_eq_true rfl) ?_
  have hP9 : va_P G vwCl [(tw, .inr (9, [t0, t1, t2, .int 0, t4, .int 0, .ref q, .int 0, .ref sw])), (q, .inr (5, [w0, w1, .int 0, w3, w4])), (sw, .inl (cy 2, 12, .inl ((lsf [f_12]) 0)))] _ := hP.sub [0, 1, 2] rfl
  have hD9 : va_D A [(tw, .inr (9, [t0, t1, t2, .int 0, t4, .int 0, .ref q, .int 0, .ref sw])), (q, .inr (5, [w0, w1, .int 0, w3, w4])), (sw, .inl (cy 2, 12, .inl ((lsf [f_12]) 0)))] := hD.sub [0, 1, 2] (by decide) rfl
  exact W.vret hx hb hr (fun t ht9 hW => ⟨⟨(lsf [f_12]), rfl, trivial, ⟨by rw [ht9]; exact hP9, hD9⟩⟩, hS.F ht9⟩) hS.2.2 dX9_clear_47
set_option maxHeartbeats 4000000 in
set_option maxRecDepth 100000 in
theorem c_sweeten (l : Launch) (G : va_G) (cy : Nat → ClassId) (sz : Nat) (tsw : Nat) (tw : Nat) (q : Nat) (sw : Nat) (t0 : Value) (t1 : Value) (t2 : Value) (t4 : Value) (f : Nat → Int32)  : Met l yX9_sweetenUntold (.code yX9_sweetenUntold cX9_sweetenUntold 2 none :: TBg) ({ frames := 1, cells := 0, slots := 0, locals := 64 }) (va_Pc [.ref tw] (EnS G cy [(tw, .inr (9, [t0, t1, t2, .int 0, t4, .int 0, .ref q, .int 0, .ref sw])), (sw, .inl (cy 2, 12, .inl f))] sz tsw)) (va_Qv (fun u : Nat → Nat → Int32 => True) (fun u t => Ex G (va_A [(tw, .inr (9, [t0, t1, t2, .int 0, t4, .int 0, .ref q, .int 0, .ref sw])), (sw, .inl (cy 2, 12, .inl f))] sz) [(tw, .inr (9, [t0, t1, t2, .int 0, t4, .int 0, .ref q, .int 0, .ref sw])), (sw, .inl (cy 2, 12, .inl (u 0)))] t) (va_A [(tw, .inr (9, [t0, t1, t2, .int 0, t4, .int 0, .ref q, .int 0, .ref sw])), (sw, .inl (cy 2, 12, .inl f))] sz)) 0 0 (va_A [(tw, .inr (9, [t0, t1, t2, .int 0, t4, .int 0, .ref q, .int 0, .ref sw])), (sw, .inl (cy 2, 12, .inl f))] sz) := by
  refine Met.ofW (cc := cX9_sweetenUntold) (maxL := 2) (ret := none) (by decide) rfl ?_
  intro p e s m args below meth c s₁ B hml hv
  obtain ⟨rfl, ⟨hsz, hP, hK, hD0, hN⟩, hSW⟩ := hv
  have hx := B.exec
  have hb := B.bytes
  have hr := B.returns
  have hts := atoms_spec (ws := .code yX9_sweetenUntold cX9_sweetenUntold 2 none :: TBg) B.pre
  have ht : ∀ w ∈ TBg, w.before _ s = true := fun w h => hts w (List.mem_cons_of_mem _ h)
  have hown : s.vm.findClass RX9 = some m.cls := findClass_of_methodNamed B.named
  have hlocks := B.notSynchronized
  subst hsz
  have hD := hD0.self (sz := s.heap.size)
  generalize hAe : va_A [(tw, .inr (9, [t0, t1, t2, .int 0, t4, .int 0, .ref q, .int 0, .ref sw])), (sw, .inl (cy 2, 12, .inl f))] s.heap.size = A at hD hSW ⊢
  have hA : ∀ q : Nat, s.heap.size ≤ q → A q := fun q h => by rw [← hAe]; exact Or.inr h
  have hS : va_S A s.heap s.heap [] := va_S.rf
  have hl := lv_entry ([.ref tw]) (n := 2) (Nat.le_of_ble_eq_true rfl)
  rw [lg_entry_eq]
  generalize (lg_sl ([.ref tw]) ++ List.replicate (2 - (lg_sl ([.ref tw])).length) Slot.unset).toArray = ls at hl ⊢
  have hl : lv_has ls 2 [(0, .ref tw)] := hl
  refine lv_iconst (v := 0) hx hb dX9_sweetenUntold_0 (by decide) ?_
  refine lv_istore_n (lv' := [(1, .int 0), (0, .ref tw)]) hx hb dX9_sweetenUntold_1 rfl hl (by decide) rfl (fun ls hl => ?_)
  refine lv_iload_n hx hb dX9_sweetenUntold_2 rfl (lv_at hl 0 rfl) ?_
  refine va_gets (C := "TuneLocks$Town") (n := "SWEET_UNTOLD") (d := "[I") hx hb hSW.1 hS hown (ht _ k_164) (fun _ h9 => h9) dX9_sweetenUntold_3 ?_
  refine va_tlen (v := 6) hx hb hSW.2 hS rfl dX9_sweetenUntold_6 ?_
  refine lv_icmp_ge (tgt := 27) hx hb dX9_sweetenUntold_7 (by decide) (fun c9 => absurd c9 (by decide)) (fun _ => ?_)
  refine lv_aload_n hx hb dX9_sweetenUntold_10 rfl (lv_at hl 1 rfl) ?_
  refine va_get (ci := 9) (v := .ref sw) (C := RX9) (T := TX9) (N := 9) hx hb ht iX9 hown hK hP 0 rfl rfl 8 (by decide) (ht _ k_63) (fun _ h9 => h9) rfl dX9_sweetenUntold_11 ?_
  refine va_gets (C := "TuneLocks$Town") (n := "SWEET_UNTOLD") (d := "[I") hx hb hSW.1 hS hown (ht _ k_164) (fun _ h9 => h9) dX9_sweetenUntold_14 ?_
  refine lv_iload_n hx hb dX9_sweetenUntold_17 rfl (lv_at hl 0 rfl) ?_
  refine va_ti (v := .int 0) hx hb hSW.2 hS (in_lit (by decide +kernel)) rfl dX9_sweetenUntold_18 ?_
  refine lv_iconst (v := 1) hx hb dX9_sweetenUntold_19 (by decide) ?_
  refine ow_zast hx hb hK hP hD hS 1 rfl (in_lit (by decide +kernel)) dX9_sweetenUntold_20 (fun f_1 H locs hP hD hS => ?_)
  have hP : va_P G vwCl [(tw, .inr (9, [t0, t1, t2, .int 0, t4, .int 0, .ref q, .int 0, .ref sw])), (sw, .inl (cy 2, 12, .inl f_1))] H := hP
  have hD : va_D A [(tw, .inr (9, [t0, t1, t2, .int 0, t4, .int 0, .ref q, .int 0, .ref sw])), (sw, .inl (cy 2, 12, .inl f_1))] := hD
  refine lv_iinc (v := 1) (lv' := [(1, .int 1), (0, .ref tw)]) hx hb dX9_sweetenUntold_21 hl (k := 0) rfl (by decide) (by decide) rfl (fun ls hl => ?_)
  refine lv_goto (tgt := 2) hx hb dX9_sweetenUntold_24 (by decide) ?_
  refine lv_iload_n hx hb dX9_sweetenUntold_2 rfl (lv_at hl 0 rfl) ?_
  refine va_gets (C := "TuneLocks$Town") (n := "SWEET_UNTOLD") (d := "[I") hx hb hSW.1 hS hown (ht _ k_164) (fun _ h9 => h9) dX9_sweetenUntold_3 ?_
  refine va_tlen (v := 6) hx hb hSW.2 hS rfl dX9_sweetenUntold_6 ?_
  refine lv_icmp_ge (tgt := 27) hx hb dX9_sweetenUntold_7 (by decide) (fun c9 => absurd c9 (by decide)) (fun _ => ?_)
  refine lv_aload_n hx hb dX9_sweetenUntold_10 rfl (lv_at hl 1 rfl) ?_
  refine va_get (ci := 9) (v := .ref sw) (C := RX9) (T := TX9) (N := 9) hx hb ht iX9 hown hK hP 0 rfl rfl 8 (by decide) (ht _ k_63) (fun _ h9 => h9) rfl dX9_sweetenUntold_11 ?_
  refine va_gets (C := "TuneLocks$Town") (n := "SWEET_UNTOLD") (d := "[I") hx hb hSW.1 hS hown (ht _ k_164) (fun _ h9 => h9) dX9_sweetenUntold_14 ?_
  refine lv_iload_n hx hb dX9_sweetenUntold_17 rfl (lv_at hl 0 rfl) ?_
  refine va_ti (v := .int 3) hx hb hSW.2 hS (in_lit (by decide +kernel)) rfl dX9_sweetenUntold_18 ?_
  refine lv_iconst (v := 1) hx hb dX9_sweetenUntold_19 (by decide) ?_
  refine ow_zast hx hb hK hP hD hS 1 rfl (in_lit (by decide +kernel)) dX9_sweetenUntold_20 (fun f_2 H locs hP hD hS => ?_)
  have hP : va_P G vwCl [(tw, .inr (9, [t0, t1, t2, .int 0, t4, .int 0, .ref q, .int 0, .ref sw])), (sw, .inl (cy 2, 12, .inl f_2))] H := hP
  have hD : va_D A [(tw, .inr (9, [t0, t1, t2, .int 0, t4, .int 0, .ref q, .int 0, .ref sw])), (sw, .inl (cy 2, 12, .inl f_2))] := hD
  refine lv_iinc (v := 2) (lv' := [(1, .int 2), (0, .ref tw)]) hx hb dX9_sweetenUntold_21 hl (k := 0) rfl (by decide) (by decide) rfl (fun ls hl => ?_)
  refine lv_goto (tgt := 2) hx hb dX9_sweetenUntold_24 (by decide) ?_
  refine lv_iload_n hx hb dX9_sweetenUntold_2 rfl (lv_at hl 0 rfl) ?_
  refine va_gets (C := "TuneLocks$Town") (n := "SWEET_UNTOLD") (d := "[I") hx hb hSW.1 hS hown (ht _ k_164) (fun _ h9 => h9) dX9_sweetenUntold_3 ?_
  refine va_tlen (v := 6) hx hb hSW.2 hS rfl dX9_sweetenUntold_6 ?_
  refine lv_icmp_ge (tgt := 27) hx hb dX9_sweetenUntold_7 (by decide) (fun c9 => absurd c9 (by decide)) (fun _ => ?_)
  refine lv_aload_n hx hb dX9_sweetenUntold_10 rfl (lv_at hl 1 rfl) ?_
  refine va_get (ci := 9) (v := .ref sw) (C := RX9) (T := TX9) (N := 9) hx hb ht iX9 hown hK hP 0 rfl rfl 8 (by decide) (ht _ k_63) (fun _ h9 => h9) rfl dX9_sweetenUntold_11 ?_
  refine va_gets (C := "TuneLocks$Town") (n := "SWEET_UNTOLD") (d := "[I") hx hb hSW.1 hS hown (ht _ k_164) (fun _ h9 => h9) dX9_sweetenUntold_14 ?_
  refine lv_iload_n hx hb dX9_sweetenUntold_17 rfl (lv_at hl 0 rfl) ?_
  refine va_ti (v := .int 4) hx hb hSW.2 hS (in_lit (by decide +kernel)) rfl dX9_sweetenUntold_18 ?_
  refine lv_iconst (v := 1) hx hb dX9_sweetenUntold_19 (by decide) ?_
  refine ow_zast hx hb hK hP hD hS 1 rfl (in_lit (by decide +kernel)) dX9_sweetenUntold_20 (fun f_3 H locs hP hD hS => ?_)
  have hP : va_P G vwCl [(tw, .inr (9, [t0, t1, t2, .int 0, t4, .int 0, .ref q, .int 0, .ref sw])), (sw, .inl (cy 2, 12, .inl f_3))] H := hP
  have hD : va_D A [(tw, .inr (9, [t0, t1, t2, .int 0, t4, .int 0, .ref q, .int 0, .ref sw])), (sw, .inl (cy 2, 12, .inl f_3))] := hD
  refine lv_iinc (v := 3) (lv' := [(1, .int 3), (0, .ref tw)]) hx hb dX9_sweetenUntold_21 hl (k := 0) rfl (by decide) (by decide) rfl (fun ls hl => ?_)
  refine lv_goto (tgt := 2) hx hb dX9_sweetenUntold_24 (by decide) ?_
  refine lv_iload_n hx hb dX9_sweetenUntold_2 rfl (lv_at hl 0 rfl) ?_
  refine va_gets (C := "TuneLocks$Town") (n := "SWEET_UNTOLD") (d := "[I") hx hb hSW.1 hS hown (ht _ k_164) (fun _ h9 => h9) dX9_sweetenUntold_3 ?_
  refine va_tlen (v := 6) hx hb hSW.2 hS rfl dX9_sweetenUntold_6 ?_
  refine lv_icmp_ge (tgt := 27) hx hb dX9_sweetenUntold_7 (by decide) (fun c9 => absurd c9 (by decide)) (fun _ => ?_)
  refine lv_aload_n hx hb dX9_sweetenUntold_10 rfl (lv_at hl 1 rfl) ?_
  refine va_get (ci := 9) (v := .ref sw) (C := RX9) (T := TX9) (N := 9) hx hb ht iX9 hown hK hP 0 rfl rfl 8 (by decide) (ht _ k_63) (fun _ h9 => h9) rfl dX9_sweetenUntold_11 ?_
  refine va_gets (C := "TuneLocks$Town") (n := "SWEET_UNTOLD") (d := "[I") hx hb hSW.1 hS hown (ht _ k_164) (fun _ h9 => h9) dX9_sweetenUntold_14 ?_
  refine lv_iload_n hx hb dX9_sweetenUntold_17 rfl (lv_at hl 0 rfl) ?_
  refine va_ti (v := .int 7) hx hb hSW.2 hS (in_lit (by decide +kernel)) rfl dX9_sweetenUntold_18 ?_
  refine lv_iconst (v := 1) hx hb dX9_sweetenUntold_19 (by decide) ?_
  refine ow_zast hx hb hK hP hD hS 1 rfl (in_lit (by decide +kernel)) dX9_sweetenUntold_20 (fun f_4 H locs hP hD hS => ?_)
  have hP : va_P G vwCl [(tw, .inr (9, [t0, t1, t2, .int 0, t4, .int 0, .ref q, .int 0, .ref sw])), (sw, .inl (cy 2, 12, .inl f_4))] H := hP
  have hD : va_D A [(tw, .inr (9, [t0, t1, t2, .int 0, t4, .int 0, .ref q, .int 0, .ref sw])), (sw, .inl (cy 2, 12, .inl f_4))] := hD
  refine lv_iinc (v := 4) (lv' := [(1, .int 4), (0, .ref tw)]) hx hb dX9_sweetenUntold_21 hl (k := 0) rfl (by decide) (by decide) rfl (fun ls hl => ?_)
  refine lv_goto (tgt := 2) hx hb dX9_sweetenUntold_24 (by decide) ?_
  refine lv_iload_n hx hb dX9_sweetenUntold_2 rfl (lv_at hl 0 rfl) ?_
  refine va_gets (C := "TuneLocks$Town") (n := "SWEET_UNTOLD") (d := "[I") hx hb hSW.1 hS hown (ht _ k_164) (fun _ h9 => h9) dX9_sweetenUntold_3 ?_
  refine va_tlen (v := 6) hx hb hSW.2 hS rfl dX9_sweetenUntold_6 ?_
  refine lv_icmp_ge (tgt := 27) hx hb dX9_sweetenUntold_7 (by decide) (fun c9 => absurd c9 (by decide)) (fun _ => ?_)
  refine lv_aload_n hx hb dX9_sweetenUntold_10 rfl (lv_at hl 1 rfl) ?_
  refine va_get (ci := 9) (v := .ref sw) (C := RX9) (T := TX9) (N := 9) hx hb ht iX9 hown hK hP 0 rfl rfl 8 (by decide) (ht _ k_63) (fun _ h9 => h9) rfl dX9_sweetenUntold_11 ?_
  refine va_gets (C := "TuneLocks$Town") (n := "SWEET_UNTOLD") (d := "[I") hx hb hSW.1 hS hown (ht _ k_164) (fun _ h9 => h9) dX9_sweetenUntold_14 ?_
  refine lv_iload_n hx hb dX9_sweetenUntold_17 rfl (lv_at hl 0 rfl) ?_
  refine va_ti (v := .int 8) hx hb hSW.2 hS (in_lit (by decide +kernel)) rfl dX9_sweetenUntold_18 ?_
  refine lv_iconst (v := 1) hx hb dX9_sweetenUntold_19 (by decide) ?_
  refine ow_zast hx hb hK hP hD hS 1 rfl (in_lit (by decide +kernel)) dX9_sweetenUntold_20 (fun f_5 H locs hP hD hS => ?_)
  have hP : va_P G vwCl [(tw, .inr (9, [t0, t1, t2, .int 0, t4, .int 0, .ref q, .int 0, .ref sw])), (sw, .inl (cy 2, 12, .inl f_5))] H := hP
  have hD : va_D A [(tw, .inr (9, [t0, t1, t2, .int 0, t4, .int 0, .ref q, .int 0, .ref sw])), (sw, .inl (cy 2, 12, .inl f_5))] := hD
  refine lv_iinc (v := 5) (lv' := [(1, .int 5), (0, .ref tw)]) hx hb dX9_sweetenUntold_21 hl (k := 0) rfl (by decide) (by decide) rfl (fun ls hl => ?_)
  refine lv_goto (tgt := 2) hx hb dX9_sweetenUntold_24 (by decide) ?_
  refine lv_iload_n hx hb dX9_sweetenUntold_2 rfl (lv_at hl 0 rfl) ?_
  refine va_gets (C := "TuneLocks$Town") (n := "SWEET_UNTOLD") (d := "[I") hx hb hSW.1 hS hown (ht _ k_164) (fun _ h9 => h9) dX9_sweetenUntold_3 ?_
  refine va_tlen (v := 6) hx hb hSW.2 hS rfl dX9_sweetenUntold_6 ?_
  refine lv_icmp_ge (tgt := 27) hx hb dX9_sweetenUntold_7 (by decide) (fun c9 => absurd c9 (by decide)) (fun _ => ?_)
  refine lv_aload_n hx hb dX9_sweetenUntold_10 rfl (lv_at hl 1 rfl) ?_
  refine va_get (ci := 9) (v := .ref sw) (C := RX9) (T := TX9) (N := 9) hx hb ht iX9 hown hK hP 0 rfl rfl 8 (by decide) (ht _ k_63) (fun _ h9 => h9) rfl dX9_sweetenUntold_11 ?_
  refine va_gets (C := "TuneLocks$Town") (n := "SWEET_UNTOLD") (d := "[I") hx hb hSW.1 hS hown (ht _ k_164) (fun _ h9 => h9) dX9_sweetenUntold_14 ?_
  refine lv_iload_n hx hb dX9_sweetenUntold_17 rfl (lv_at hl 0 rfl) ?_
  refine va_ti (v := .int 9) hx hb hSW.2 hS (in_lit (by decide +kernel)) rfl dX9_sweetenUntold_18 ?_
  refine lv_iconst (v := 1) hx hb dX9_sweetenUntold_19 (by decide) ?_
  refine ow_zast hx hb hK hP hD hS 1 rfl (in_lit (by decide +kernel)) dX9_sweetenUntold_20 (fun f_6 H locs hP hD hS => ?_)
  have hP : va_P G vwCl [(tw, .inr (9, [t0, t1, t2, .int 0, t4, .int 0, .ref q, .int 0, .ref sw])), (sw, .inl (cy 2, 12, .inl f_6))] H := hP
  have hD : va_D A [(tw, .inr (9, [t0, t1, t2, .int 0, t4, .int 0, .ref q, .int 0, .ref sw])), (sw, .inl (cy 2, 12, .inl f_6))] := hD
  refine lv_iinc (v := 6) (lv' := [(1, .int 6), (0, .ref tw)]) hx hb dX9_sweetenUntold_21 hl (k := 0) rfl (by decide) (by decide) rfl (fun ls hl => ?_)
  refine lv_goto (tgt := 2) hx hb dX9_sweetenUntold_24 (by decide) ?_
  refine lv_iload_n hx hb dX9_sweetenUntold_2 rfl (lv_at hl 0 rfl) ?_
  refine va_gets (C := "TuneLocks$Town") (n := "SWEET_UNTOLD") (d := "[I") hx hb hSW.1 hS hown (ht _ k_164) (fun _ h9 => h9) dX9_sweetenUntold_3 ?_
  refine va_tlen (v := 6) hx hb hSW.2 hS rfl dX9_sweetenUntold_6 ?_
  refine lv_icmp_ge (tgt := 27) hx hb dX9_sweetenUntold_7 (by decide) (fun _ => ?_) (fun c9 => absurd (by decide) c9)
  refine W.widen (k := 0) (n := 0) (Nat.le_of_ble_eq_true rfl) (Nat.le_of_ble_eq_true rfl) ?_
  have hP9 : va_P G vwCl [(tw, .inr (9, [t0, t1, t2, .int 0, t4, .int 0, .ref q, .int 0, .ref sw])), (sw, .inl (cy 2, 12, .inl ((lsf [f_6]) 0)))] _ := hP.sub [0, 1] rfl
  have hD9 : va_D A [(tw, .inr (9, [t0, t1, t2, .int 0, t4, .int 0, .ref q, .int 0, .ref sw])), (sw, .inl (cy 2, 12, .inl ((lsf [f_6]) 0)))] := hD.sub [0, 1] (by decide) rfl
  exact W.vret hx hb hr (fun t ht9 hW => ⟨⟨(lsf [f_6]), rfl, trivial, ⟨by rw [ht9]; exact hP9, hD9⟩⟩, hS.F ht9⟩) hS.2.2 dX9_sweetenUntold_27
set_option maxHeartbeats 4000000 in
set_option maxRecDepth 100000 in
theorem c_prepare (l : Launch) (G : va_G) (cy : Nat → ClassId) (sz : Nat) (tw : Nat) (q : Nat) (sw : Nat) (t0 : Value) (t1 : Value) (t2 : Value) (t4 : Value)  : Met l yX9_prepare (.code yX9_prepare cX9_prepare 2 none :: TBg) ({ frames := 1, cells := 0, slots := 0, locals := 64 }) (va_Pc [.ref tw] (En G cy [(tw, .inr (9, [t0, t1, t2, .int 0, t4, .int 0, .ref q, .int 0, .ref sw]))] sz)) (va_Qv (fun _ : Unit => True) (fun _ _ => True) (va_A [] sz)) 0 0 (va_A [] sz) := by
  refine Met.ofW (cc := cX9_prepare) (maxL := 2) (ret := none) (by decide) rfl ?_
  intro p e s m args below meth c s₁ B hml hv
  obtain ⟨rfl, hsz, hP, hK, hD0, hN⟩ := hv
  have hx := B.exec
  have hb := B.bytes
  have hr := B.returns
  have hts := atoms_spec (ws := .code yX9_prepare cX9_prepare 2 none :: TBg) B.pre
  have ht : ∀ w ∈ TBg, w.before _ s = true := fun w h => hts w (List.mem_cons_of_mem _ h)
  have hown : s.vm.findClass RX9 = some m.cls := findClass_of_methodNamed B.named
  have hlocks := B.notSynchronized
  subst hsz
  generalize hAe : va_A [] s.heap.size = A at ⊢
  have hA : ∀ q : Nat, s.heap.size ≤ q → A q := fun q h => by rw [← hAe]; exact Or.inr h
  have hS : va_S A s.heap s.heap [] := va_S.rf
  have hl := lv_entry ([.ref tw]) (n := 2) (Nat.le_of_ble_eq_true rfl)
  rw [lg_entry_eq]
  generalize (lg_sl ([.ref tw]) ++ List.replicate (2 - (lg_sl ([.ref tw])).length) Slot.unset).toArray = ls at hl ⊢
  have hl : lv_has ls 2 [(0, .ref tw)] := hl
  refine lv_iconst (v := 0) hx hb dX9_prepare_0 (by decide) ?_
  refine lv_istore_n (lv' := [(1, .int 0), (0, .ref tw)]) hx hb dX9_prepare_1 rfl hl (by decide) rfl (fun ls hl => ?_)
  refine lv_iload_n hx hb dX9_prepare_2 rfl (lv_at hl 0 rfl) ?_
  refine lv_aload_n hx hb dX9_prepare_3 rfl (lv_at hl 1 rfl) ?_
  refine va_get (ci := 9) (v := .int 0) (C := RX9) (T := TX9) (N := 9) hx hb ht iX9 hown hK hP 0 rfl rfl 3 (by decide) (ht _ k_47) (fun _ h9 => h9) rfl dX9_prepare_4 ?_
  refine lv_icmp_ge (tgt := 32) hx hb dX9_prepare_7 (by decide) (fun _ => ?_) (fun c9 => absurd (by decide) c9)
  refine lv_iconst (v := 0) hx hb dX9_prepare_32 (by decide) ?_
  refine lv_istore_n (lv' := [(1, .int 0), (0, .ref tw)]) hx hb dX9_prepare_33 rfl hl (by decide) rfl (fun ls hl => ?_)
  refine lv_iload_n hx hb dX9_prepare_34 rfl (lv_at hl 0 rfl) ?_
  refine lv_aload_n hx hb dX9_prepare_35 rfl (lv_at hl 1 rfl) ?_
  refine va_get (ci := 9) (v := .int 0) (C := RX9) (T := TX9) (N := 9) hx hb ht iX9 hown hK hP 0 rfl rfl 5 (by decide) (ht _ k_118) (fun _ h9 => h9) rfl dX9_prepare_36 ?_
  refine lv_icmp_ge (tgt := 78) hx hb dX9_prepare_39 (by decide) (fun _ => ?_) (fun c9 => absurd (by decide) c9)
  refine W.widen (k := 0) (n := 0) (Nat.le_of_ble_eq_true rfl) (Nat.le_of_ble_eq_true rfl) ?_
  exact W.vret hx hb hr (fun t ht9 hW => ⟨⟨(), rfl, trivial, trivial⟩, hS.F ht9⟩) hS.2.2 dX9_prepare_78
set_option maxHeartbeats 4000000 in
set_option maxRecDepth 100000 in
theorem c_readTown (l : Launch) (G : va_G) (cy : Nat → ClassId) (sz : Nat) (tsw : Nat) (h : Nat) (tp : Nat) (tw : Nat) (q : Nat) (sw : Nat) (t0 : Value) (t1 : Value) (t2 : Value) (t4 : Value) (w0 : Value) (w1 : Value) (w3 : Value) (w4 : Value) (f : Nat → Int32)  : Met l yX6_readTown (.code yX6_readTown cX6_readTown 3 (some .boolean) :: TBg) ({ frames := 2, cells := 0, slots := 0, locals := 128 }) (va_Pc [.ref h] (EnS G cy [(h, .inr (6, [.ref tp, .int 0, .ref tw, .int 0, .int 0, .int 0, .int 0, .long 0, .int 0, .int 0, .int (-1)])), (tw, .inr (9, [t0, t1, t2, .int 0, t4, .int 0, .ref q, .int 0, .ref sw])), (q, .inr (5, [w0, w1, .int 0, w3, w4])), (sw, .inl (cy 2, 12, .inl f))] sz tsw)) (va_Qi (fun (r : Int32) (u : Nat → Nat → Int32) => r = 1 ∧ True) (fun u t => Ex G (va_A [(h, .inr (6, [.ref tp, .int 0, .ref tw, .int 0, .int 0, .int 0, .int 0, .long 0, .int 0, .int 0, .int (-1)])), (tw, .inr (9, [t0, t1, t2, .int 0, t4, .int 0, .ref q, .int 0, .ref sw])), (q, .inr (5, [w0, w1, .int 0, w3, w4])), (sw, .inl (cy 2, 12, .inl f))] sz) [(h, .inr (6, [.ref tp, .int 0, .ref tw, .int 0, .int 17, .int 0, .int 0, .long 0, .int 0, .int 0, .int (-1)])), (tw, .inr (9, [t0, t1, t2, .int 0, t4, .int 0, .ref q, .int 0, .ref sw])), (q, .inr (5, [w0, w1, .int 0, w3, w4])), (sw, .inl (cy 2, 12, .inl (u 0)))] t) (va_A [(h, .inr (6, [.ref tp, .int 0, .ref tw, .int 0, .int 0, .int 0, .int 0, .long 0, .int 0, .int 0, .int (-1)])), (tw, .inr (9, [t0, t1, t2, .int 0, t4, .int 0, .ref q, .int 0, .ref sw])), (q, .inr (5, [w0, w1, .int 0, w3, w4])), (sw, .inl (cy 2, 12, .inl f))] sz)) 0 0 (va_A [(h, .inr (6, [.ref tp, .int 0, .ref tw, .int 0, .int 0, .int 0, .int 0, .long 0, .int 0, .int 0, .int (-1)])), (tw, .inr (9, [t0, t1, t2, .int 0, t4, .int 0, .ref q, .int 0, .ref sw])), (q, .inr (5, [w0, w1, .int 0, w3, w4])), (sw, .inl (cy 2, 12, .inl f))] sz) := by
  refine Met.ofW (cc := cX6_readTown) (maxL := 3) (ret := (some .boolean)) (by decide) rfl ?_
  intro p e s m args below meth c s₁ B hml hv
  obtain ⟨rfl, ⟨hsz, hP, hK, hD0, hN⟩, hSW⟩ := hv
  have hx := B.exec
  have hb := B.bytes
  have hr := B.returns
  have hts := atoms_spec (ws := .code yX6_readTown cX6_readTown 3 (some .boolean) :: TBg) B.pre
  have ht : ∀ w ∈ TBg, w.before _ s = true := fun w h => hts w (List.mem_cons_of_mem _ h)
  have hown : s.vm.findClass RX6 = some m.cls := findClass_of_methodNamed B.named
  have hlocks := B.notSynchronized
  subst hsz
  have hD := hD0.self (sz := s.heap.size)
  generalize hAe : va_A [(h, .inr (6, [.ref tp, .int 0, .ref tw, .int 0, .int 0, .int 0, .int 0, .long 0, .int 0, .int 0, .int (-1)])), (tw, .inr (9, [t0, t1, t2, .int 0, t4, .int 0, .ref q, .int 0, .ref sw])), (q, .inr (5, [w0, w1, .int 0, w3, w4])), (sw, .inl (cy 2, 12, .inl f))] s.heap.size = A at hD hSW ⊢
  have hA : ∀ q : Nat, s.heap.size ≤ q → A q := fun q h => by rw [← hAe]; exact Or.inr h
  have hS : va_S A s.heap s.heap [] := va_S.rf
  have hl := lv_entry ([.ref h]) (n := 3) (Nat.le_of_ble_eq_true rfl)
  rw [lg_entry_eq]
  generalize (lg_sl ([.ref h]) ++ List.replicate (3 - (lg_sl ([.ref h])).length) Slot.unset).toArray = ls at hl ⊢
  have hl : lv_has ls 3 [(0, .ref h)] := hl
  refine lv_aload_n hx hb dX6_readTown_0 rfl (lv_at hl 0 rfl) ?_
  refine va_get (ci := 6) (v := .ref tw) (C := RX6) (T := TX6) (N := 11) hx hb ht iX6 hown hK hP 0 rfl rfl 2 (by decide) (ht _ k_159) (fun _ h9 => h9) rfl dX6_readTown_1 ?_
  have hFc := va_free (wc := [(tw, .inr (9, [t0, t1, t2, .int 0, t4, .int 0, .ref q, .int 0, .ref sw])), (q, .inr (5, [w0, w1, .int 0, w3, w4])), (sw, .inl (cy 2, 12, .inl f))]) hD hS hA [1, 2, 3] rfl
  have hPc := hP.sub (ws' := [(tw, .inr (9, [t0, t1, t2, .int 0, t4, .int 0, .ref q, .int 0, .ref sw])), (q, .inr (5, [w0, w1, .int 0, w3, w4])), (sw, .inl (cy 2, 12, .inl f))]) [1, 2, 3] rfl
  have hDc := hD.sub (ws' := [(tw, .inr (9, [t0, t1, t2, .int 0, t4, .int 0, .ref q, .int 0, .ref sw])), (q, .inr (5, [w0, w1, .int 0, w3, w4])), (sw, .inl (cy 2, 12, .inl f))]) [1, 2, 3] (by decide) rfl
  refine va_callv (va_runV (As := []) (rest := []) ⟨hx, hb, hml, hown, ht⟩ (c_townClear l G cy _ tw q sw (t0) (t1) (t2) (t4) (w0) (w1) (w3) (w4) f ) (cwV 0 ht (gv k_166 k_167 k_168 k_78 k_165) rfl rfl rfl (by decide +kernel) ⟨Nat.le_of_ble_eq_true rfl, Nat.le_of_ble_eq_true rfl⟩) ⟨En.blind, va_recv hK hP (ci := 9) (q0 := 1) rfl rfl, fun U hU hW => ⟨rfl, En.of hU hW hPc hK hDc hN⟩⟩ rfl rfl hl.1 rfl (lv_room (Nat.le_of_ble_eq_true rfl)) dX6_readTown_4 ⟨Nat.le_of_ble_eq_true rfl, Nat.le_of_ble_eq_true rfl⟩) hS (fun q _ h => hFc q h) hFc (fun u_1 t H locs ht9 hvm hw hB hz1 hk1 hS => ?_)
  obtain ⟨hP1, hD1⟩ := hB
  rw [ht9] at hP1
  obtain ⟨hP, hD⟩ := fr_put (wc := [(tw, .inr (9, [t0, t1, t2, .int 0, t4, .int 0, .ref q, .int 0, .ref sw])), (q, .inr (5, [w0, w1, .int 0, w3, w4])), (sw, .inl (cy 2, 12, .inl f))]) (w1 := [(tw, .inr (9, [t0, t1, t2, .int 0, t4, .int 0, .ref q, .int 0, .ref sw])), (q, .inr (5, [w0, w1, .int 0, w3, w4])), (sw, .inl (cy 2, 12, .inl (u_1 0)))]) hP hD [1, 2, 3] rfl rfl rfl hk1 hP1
  clear hFc hPc hDc hP1 hD1 hz1 hk1
  have hP : va_P G vwCl [(h, .inr (6, [.ref tp, .int 0, .ref tw, .int 0, .int 0, .int 0, .int 0, .long 0, .int 0, .int 0, .int (-1)])), (tw, .inr (9, [t0, t1, t2, .int 0, t4, .int 0, .ref q, .int 0, .ref sw])), (q, .inr (5, [w0, w1, .int 0, w3, w4])), (sw, .inl (cy 2, 12, .inl (u_1 0)))] H := hP
  have hD : va_D A [(h, .inr (6, [.ref tp, .int 0, .ref tw, .int 0, .int 0, .int 0, .int 0, .long 0, .int 0, .int 0, .int (-1)])), (tw, .inr (9, [t0, t1, t2, .int 0, t4, .int 0, .ref q, .int 0, .ref sw])), (q, .inr (5, [w0, w1, .int 0, w3, w4])), (sw, .inl (cy 2, 12, .inl (u_1 0)))] := hD
  refine lv_aload_n hx hb dX6_readTown_7 rfl (lv_at hl 0 rfl) ?_
  have hFc := va_free (wc := [(h, .inr (6, [.ref tp, .int 0, .ref tw, .int 0, .int 0, .int 0, .int 0, .long 0, .int 0, .int 0, .int (-1)]))]) hD hS hA [0] rfl
  have hPc := hP.sub (ws' := [(h, .inr (6, [.ref tp, .int 0, .ref tw, .int 0, .int 0, .int 0, .int 0, .long 0, .int 0, .int 0, .int (-1)]))]) [0] rfl
  have hDc := hD.sub (ws' := [(h, .inr (6, [.ref tp, .int 0, .ref tw, .int 0, .int 0, .int 0, .int 0, .long 0, .int 0, .int 0, .int (-1)]))]) [0] (by decide) rfl
  refine va_callv (va_runV (As := []) (rest := []) ⟨hx, hb, hml, hown, ht⟩ (c_takeToken l G cy _ h tp tw ) (cwV 0 ht (gv k_170 k_171 k_172 k_173 k_169) rfl rfl rfl (by decide +kernel) ⟨Nat.le_of_ble_eq_true rfl, Nat.le_of_ble_eq_true rfl⟩) ⟨En.blind, va_recv hK hP (ci := 6) (q0 := 0) rfl rfl, fun U hU hW => ⟨rfl, En.of hU hW hPc hK hDc hN⟩⟩ rfl rfl hl.1 rfl (lv_room (Nat.le_of_ble_eq_true rfl)) dX6_readTown_8 ⟨Nat.le_of_ble_eq_true rfl, Nat.le_of_ble_eq_true rfl⟩) hS (fun q _ h => hFc q h) hFc (fun u_2 t H locs ht9 hvm hw hB hz1 hk1 hS => ?_)
  obtain ⟨hP1, hD1⟩ := hB
  rw [ht9] at hP1
  obtain ⟨hP, hD⟩ := fr_put (wc := [(h, .inr (6, [.ref tp, .int 0, .ref tw, .int 0, .int 0, .int 0, .int 0, .long 0, .int 0, .int 0, .int (-1)]))]) (w1 := [(h, .inr (6, [.ref tp, .int 0, .ref tw, .int 0, .int 17, .int 0, .int 0, .long 0, .int 0, .int 0, .int (-1)]))]) hP hD [0] rfl rfl rfl hk1 hP1
  clear hFc hPc hDc hP1 hD1 hz1 hk1
  have hP : va_P G vwCl [(h, .inr (6, [.ref tp, .int 0, .ref tw, .int 0, .int 17, .int 0, .int 0, .long 0, .int 0, .int 0, .int (-1)])), (tw, .inr (9, [t0, t1, t2, .int 0, t4, .int 0, .ref q, .int 0, .ref sw])), (q, .inr (5, [w0, w1, .int 0, w3, w4])), (sw, .inl (cy 2, 12, .inl (u_1 0)))] H := hP
  have hD : va_D A [(h, .inr (6, [.ref tp, .int 0, .ref tw, .int 0, .int 17, .int 0, .int 0, .long 0, .int 0, .int 0, .int (-1)])), (tw, .inr (9, [t0, t1, t2, .int 0, t4, .int 0, .ref q, .int 0, .ref sw])), (q, .inr (5, [w0, w1, .int 0, w3, w4])), (sw, .inl (cy 2, 12, .inl (u_1 0)))] := hD
  refine lv_iconst (v := 1) hx hb dX6_readTown_11 (by decide) ?_
  refine lv_istore_n (lv' := [(1, .int 1), (0, .ref h)]) hx hb dX6_readTown_12 rfl hl (by decide) rfl (fun ls hl => ?_)
  refine lv_iconst (v := 0) hx hb dX6_readTown_13 (by decide) ?_
  refine lv_istore_n (lv' := [(2, .int 0), (1, .int 1), (0, .ref h)]) hx hb dX6_readTown_14 rfl hl (by decide) rfl (fun ls hl => ?_)
  refine lv_iload_n hx hb dX6_readTown_15 rfl (lv_at hl 0 rfl) ?_
  refine lv_sipush (v := 1700) hx hb dX6_readTown_16 (by decide) ?_
  refine lv_icmp_ge (tgt := 99) hx hb dX6_readTown_19 (by decide) (fun c9 => absurd c9 (by decide)) (fun _ => ?_)
  refine lv_iload_n hx hb dX6_readTown_22 rfl (lv_at hl 1 rfl) ?_
  refine lv_if_eq (tgt := 99) hx hb dX6_readTown_23 (by decide) (fun c9 => absurd c9 (by decide)) (fun _ => ?_)
  refine lv_aload_n hx hb dX6_readTown_26 rfl (lv_at hl 2 rfl) ?_
  refine va_get (ci := 6) (v := .int 17) (C := RX6) (T := TX6) (N := 11) hx hb ht iX6 hown hK hP 0 rfl rfl 4 (by decide) (ht _ k_162) (fun _ h9 => h9) rfl dX6_readTown_27 ?_
  refine lv_bipush (v := 17) hx hb dX6_readTown_30 (by decide) ?_
  refine lv_icmp_eq (tgt := 99) hx hb dX6_readTown_32 (by decide) (fun _ => ?_) (fun c9 => absurd (by decide) c9)
  refine lv_aload_n hx hb dX6_readTown_99 rfl (lv_at hl 2 rfl) ?_
  refine va_get (ci := 6) (v := .int 0) (C := RX6) (T := TX6) (N := 11) hx hb ht iX6 hown hK hP 0 rfl rfl 8 (by decide) (ht _ k_174) (fun _ h9 => h9) rfl dX6_readTown_100 ?_
  refine lv_if_ne (tgt := 113) hx hb dX6_readTown_103 (by decide) (fun c9 => absurd (by decide) c9) (fun _ => ?_)
  refine lv_aload_n hx hb dX6_readTown_106 rfl (lv_at hl 2 rfl) ?_
  refine va_get (ci := 6) (v := .ref tw) (C := RX6) (T := TX6) (N := 11) hx hb ht iX6 hown hK hP 0 rfl rfl 2 (by decide) (ht _ k_159) (fun _ h9 => h9) rfl dX6_readTown_107 ?_
  have hFc := va_free (wc := [(tw, .inr (9, [t0, t1, t2, .int 0, t4, .int 0, .ref q, .int 0, .ref sw])), (sw, .inl (cy 2, 12, .inl (u_1 0)))]) hD hS hA [1, 3] rfl
  have hPc := hP.sub (ws' := [(tw, .inr (9, [t0, t1, t2, .int 0, t4, .int 0, .ref q, .int 0, .ref sw])), (sw, .inl (cy 2, 12, .inl (u_1 0)))]) [1, 3] rfl
  have hDc := hD.sub (ws' := [(tw, .inr (9, [t0, t1, t2, .int 0, t4, .int 0, .ref q, .int 0, .ref sw])), (sw, .inl (cy 2, 12, .inl (u_1 0)))]) [1, 3] (by decide) rfl
  refine va_callv (va_runV (As := []) (rest := []) ⟨hx, hb, hml, hown, ht⟩ (c_sweeten l G cy _ tsw tw q sw (t0) (t1) (t2) (t4) (u_1 0) ) (cwV 0 ht (gv k_176 k_177 k_178 k_78 k_175) rfl rfl rfl (by decide +kernel) ⟨Nat.le_of_ble_eq_true rfl, Nat.le_of_ble_eq_true rfl⟩) ⟨EnS.blind, va_recv hK hP (ci := 9) (q0 := 1) rfl rfl, fun U hU hW => ⟨rfl, En.of hU hW hPc hK hDc hN, SWt.of hSW hS hFc hU hW⟩⟩ rfl rfl hl.1 rfl (lv_room (Nat.le_of_ble_eq_true rfl)) dX6_readTown_110 ⟨Nat.le_of_ble_eq_true rfl, Nat.le_of_ble_eq_true rfl⟩) hS (fun q _ h => hFc q h) hFc (fun u_3 t H locs ht9 hvm hw hB hz1 hk1 hS => ?_)
  obtain ⟨hP1, hD1⟩ := hB
  rw [ht9] at hP1
  obtain ⟨hP, hD⟩ := fr_put (wc := [(tw, .inr (9, [t0, t1, t2, .int 0, t4, .int 0, .ref q, .int 0, .ref sw])), (sw, .inl (cy 2, 12, .inl (u_1 0)))]) (w1 := [(tw, .inr (9, [t0, t1, t2, .int 0, t4, .int 0, .ref q, .int 0, .ref sw])), (sw, .inl (cy 2, 12, .inl (u_3 0)))]) hP hD [1, 3] rfl rfl rfl hk1 hP1
  clear hFc hPc hDc hP1 hD1 hz1 hk1
  have hP : va_P G vwCl [(h, .inr (6, [.ref tp, .int 0, .ref tw, .int 0, .int 17, .int 0, .int 0, .long 0, .int 0, .int 0, .int (-1)])), (tw, .inr (9, [t0, t1, t2, .int 0, t4, .int 0, .ref q, .int 0, .ref sw])), (q, .inr (5, [w0, w1, .int 0, w3, w4])), (sw, .inl (cy 2, 12, .inl (u_3 0)))] H := hP
  have hD : va_D A [(h, .inr (6, [.ref tp, .int 0, .ref tw, .int 0, .int 17, .int 0, .int 0, .long 0, .int 0, .int 0, .int (-1)])), (tw, .inr (9, [t0, t1, t2, .int 0, t4, .int 0, .ref q, .int 0, .ref sw])), (q, .inr (5, [w0, w1, .int 0, w3, w4])), (sw, .inl (cy 2, 12, .inl (u_3 0)))] := hD
  refine lv_iload_n hx hb dX6_readTown_113 rfl (lv_at hl 1 rfl) ?_
  refine W.widen (k := 0) (n := 0) (Nat.le_of_ble_eq_true rfl) (Nat.le_of_ble_eq_true rfl) ?_
  have hP9 : va_P G vwCl [(h, .inr (6, [.ref tp, .int 0, .ref tw, .int 0, .int 17, .int 0, .int 0, .long 0, .int 0, .int 0, .int (-1)])), (tw, .inr (9, [t0, t1, t2, .int 0, t4, .int 0, .ref q, .int 0, .ref sw])), (q, .inr (5, [w0, w1, .int 0, w3, w4])), (sw, .inl (cy 2, 12, .inl ((lsf [(u_3 0)]) 0)))] _ := hP.sub [0, 1, 2, 3] rfl
  have hD9 : va_D A [(h, .inr (6, [.ref tp, .int 0, .ref tw, .int 0, .int 17, .int 0, .int 0, .long 0, .int 0, .int 0, .int (-1)])), (tw, .inr (9, [t0, t1, t2, .int 0, t4, .int 0, .ref q, .int 0, .ref sw])), (q, .inr (5, [w0, w1, .int 0, w3, w4])), (sw, .inl (cy 2, 12, .inl ((lsf [(u_3 0)]) 0)))] := hD.sub [0, 1, 2, 3] (by decide) rfl
  exact W.zret (v := 1) hx hb hr (by first | rfl | decide) (fun t ht9 hW => ⟨⟨1, (lsf [(u_3 0)]), rfl, ⟨rfl, trivial⟩, ⟨by rw [ht9]; exact hP9, hD9⟩⟩, hS.F ht9⟩) hS.2.2 dX6_readTown_114
