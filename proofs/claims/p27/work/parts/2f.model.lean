theorem k_144 : (Cond.code yX12_opens cX12_opens 5 (some .boolean)) ∈ TBg := tb_mem 1393 (by decide +kernel) (by decide +kernel)
theorem k_145 : (Cond.methodLink RX12 365 yX12_opens) ∈ TBg := tb_mem 1390 (by decide +kernel) (by decide +kernel)
theorem k_146 : (Cond.instanceMethod yX12_opens) ∈ TBg := tb_mem 1392 (by decide +kernel) (by decide +kernel)
theorem k_147 : (Cond.selects RX12 yX12_opens yX12_opens) ∈ TBg := tb_mem 66 (by decide +kernel) (by decide +kernel)
theorem k_148 : (Cond.code yX12_left cX12_left 6 (some .int)) ∈ TBg := tb_mem 1540 (by decide +kernel) (by decide +kernel)
theorem k_149 : (Cond.methodLink RX12 427 yX12_left) ∈ TBg := tb_mem 1545 (by decide +kernel) (by decide +kernel)
theorem k_150 : (Cond.instanceMethod yX12_left) ∈ TBg := tb_mem 1538 (by decide +kernel) (by decide +kernel)
theorem k_151 : (Cond.selects RX12 yX12_left yX12_left) ∈ TBg := tb_mem 1539 (by decide +kernel) (by decide +kernel)
theorem k_152 : (Cond.code yX12_bitsOf cX12_bitsOf 3 (some .int)) ∈ TBg := tb_mem 1427 (by decide +kernel) (by decide +kernel)
theorem k_153 : (Cond.methodLink RX12 372 yX12_bitsOf) ∈ TBg := tb_mem 1425 (by decide +kernel) (by decide +kernel)
theorem k_154 : (Cond.static yX12_bitsOf) ∈ TBg := tb_mem 1426 (by decide +kernel) (by decide +kernel)
theorem k_155 : (Cond.code yX12_sing cX12_sing 5 (some .int)) ∈ TBg := tb_mem 1498 (by decide +kernel) (by decide +kernel)
theorem k_156 : (Cond.methodLink RX12 420 yX12_sing) ∈ TBg := tb_mem 1503 (by decide +kernel) (by decide +kernel)
theorem k_157 : (Cond.instanceMethod yX12_sing) ∈ TBg := tb_mem 1496 (by decide +kernel) (by decide +kernel)
theorem k_158 : (Cond.selects RX12 yX12_sing yX12_sing) ∈ TBg := tb_mem 1497 (by decide +kernel) (by decide +kernel)
theorem dX12_bitsOf_0 : decode cX12_bitsOf 0 = .ok (.iconst 0, 1) := by decide +kernel
theorem dX12_bitsOf_1 : decode cX12_bitsOf 1 = .ok (.istore_n 1, 1) := by decide +kernel
theorem dX12_bitsOf_2 : decode cX12_bitsOf 2 = .ok (.iconst 0, 1) := by decide +kernel
theorem dX12_bitsOf_3 : decode cX12_bitsOf 3 = .ok (.istore_n 2, 1) := by decide +kernel
theorem dX12_bitsOf_4 : decode cX12_bitsOf 4 = .ok (.iload_n 2, 1) := by decide +kernel
theorem dX12_bitsOf_5 : decode cX12_bitsOf 5 = .ok (.bipush 31, 2) := by decide +kernel
theorem dX12_bitsOf_7 : decode cX12_bitsOf 7 = .ok (.if_icmp .ge 17, 3) := by decide +kernel
theorem dX12_bitsOf_24 : decode cX12_bitsOf 24 = .ok (.iload_n 1, 1) := by decide +kernel
theorem dX12_bitsOf_25 : decode cX12_bitsOf 25 = .ok (.ireturn, 1) := by decide +kernel
theorem dX12_bitsOf_10 : decode cX12_bitsOf 10 = .ok (.iload_n 1, 1) := by decide +kernel
theorem dX12_bitsOf_11 : decode cX12_bitsOf 11 = .ok (.iload_n 0, 1) := by decide +kernel
theorem dX12_bitsOf_12 : decode cX12_bitsOf 12 = .ok (.iload_n 2, 1) := by decide +kernel
theorem dX12_bitsOf_13 : decode cX12_bitsOf 13 = .ok (.ishr, 1) := by decide +kernel
theorem dX12_bitsOf_14 : decode cX12_bitsOf 14 = .ok (.iconst 1, 1) := by decide +kernel
theorem dX12_bitsOf_15 : decode cX12_bitsOf 15 = .ok (.iand, 1) := by decide +kernel
theorem dX12_bitsOf_16 : decode cX12_bitsOf 16 = .ok (.iadd, 1) := by decide +kernel
theorem dX12_bitsOf_17 : decode cX12_bitsOf 17 = .ok (.istore_n 1, 1) := by decide +kernel
theorem dX12_bitsOf_18 : decode cX12_bitsOf 18 = .ok (.iinc 2 1, 3) := by decide +kernel
theorem dX12_bitsOf_21 : decode cX12_bitsOf 21 = .ok (.goto (-17), 3) := by decide +kernel
theorem dX12_doors_0 : decode cX12_doors 0 = .ok (.aload_n 0, 1) := by decide +kernel
theorem dX12_doors_1 : decode cX12_doors 1 = .ok (.iload_n 1, 1) := by decide +kernel
theorem dX12_doors_2 : decode cX12_doors 2 = .ok (.invokevirtual 338, 3) := by decide +kernel
theorem dX12_doors_5 : decode cX12_doors 5 = .ok (.ifCond .ne 5, 3) := by decide +kernel
theorem dX12_doors_10 : decode cX12_doors 10 = .ok (.iconst 0, 1) := by decide +kernel
theorem dX12_doors_11 : decode cX12_doors 11 = .ok (.istore_n 3, 1) := by decide +kernel
theorem dX12_doors_12 : decode cX12_doors 12 = .ok (.iconst 0, 1) := by decide +kernel
theorem dX12_doors_13 : decode cX12_doors 13 = .ok (.istore 4, 2) := by decide +kernel
theorem dX12_doors_15 : decode cX12_doors 15 = .ok (.iload 4, 2) := by decide +kernel
theorem dX12_doors_17 : decode cX12_doors 17 = .ok (.aload_n 0, 1) := by decide +kernel
theorem dX12_doors_18 : decode cX12_doors 18 = .ok (.getfield 24, 3) := by decide +kernel
theorem dX12_doors_21 : decode cX12_doors 21 = .ok (.aload_n 0, 1) := by decide +kernel
theorem dX12_doors_22 : decode cX12_doors 22 = .ok (.getfield 227, 3) := by decide +kernel
theorem dX12_doors_25 : decode cX12_doors 25 = .ok (.iaload, 1) := by decide +kernel
theorem dX12_doors_26 : decode cX12_doors 26 = .ok (.if_icmp .ge 42, 3) := by decide +kernel
theorem dX12_doors_68 : decode cX12_doors 68 = .ok (.iload_n 3, 1) := by decide +kernel
theorem dX12_doors_69 : decode cX12_doors 69 = .ok (.ireturn, 1) := by decide +kernel
theorem dX12_doors_29 : decode cX12_doors 29 = .ok (.iload_n 3, 1) := by decide +kernel
theorem dX12_doors_30 : decode cX12_doors 30 = .ok (.aload_n 0, 1) := by decide +kernel
theorem dX12_doors_31 : decode cX12_doors 31 = .ok (.iload 4, 2) := by decide +kernel
theorem dX12_doors_33 : decode cX12_doors 33 = .ok (.aload_n 0, 1) := by decide +kernel
theorem dX12_doors_34 : decode cX12_doors 34 = .ok (.iload_n 1, 1) := by decide +kernel
theorem dX12_doors_35 : decode cX12_doors 35 = .ok (.invokevirtual 341, 3) := by decide +kernel
theorem dX12_doors_38 : decode cX12_doors 38 = .ok (.iload_n 2, 1) := by decide +kernel
theorem dX12_doors_39 : decode cX12_doors 39 = .ok (.aload_n 0, 1) := by decide +kernel
theorem dX12_doors_40 : decode cX12_doors 40 = .ok (.getfield 80, 3) := by decide +kernel
theorem dX12_doors_43 : decode cX12_doors 43 = .ok (.iload 4, 2) := by decide +kernel
theorem dX12_doors_45 : decode cX12_doors 45 = .ok (.iaload, 1) := by decide +kernel
theorem dX12_doors_46 : decode cX12_doors 46 = .ok (.invokevirtual 365, 3) := by decide +kernel
theorem dX12_doors_49 : decode cX12_doors 49 = .ok (.ifCond .eq 10, 3) := by decide +kernel
theorem dX12_doors_59 : decode cX12_doors 59 = .ok (.iconst 0, 1) := by decide +kernel
theorem dX12_doors_60 : decode cX12_doors 60 = .ok (.ior, 1) := by decide +kernel
theorem dX12_doors_61 : decode cX12_doors 61 = .ok (.istore_n 3, 1) := by decide +kernel
theorem dX12_doors_62 : decode cX12_doors 62 = .ok (.iinc 4 1, 3) := by decide +kernel
theorem dX12_doors_65 : decode cX12_doors 65 = .ok (.goto (-50), 3) := by decide +kernel
theorem dX12_doors_52 : decode cX12_doors 52 = .ok (.iconst 1, 1) := by decide +kernel
theorem dX12_doors_53 : decode cX12_doors 53 = .ok (.iload 4, 2) := by decide +kernel
theorem dX12_doors_55 : decode cX12_doors 55 = .ok (.ishl, 1) := by decide +kernel
theorem dX12_doors_56 : decode cX12_doors 56 = .ok (.goto 4, 3) := by decide +kernel
theorem dX12_doors_8 : decode cX12_doors 8 = .ok (.iconst (-1), 1) := by decide +kernel
theorem dX12_doors_9 : decode cX12_doors 9 = .ok (.ireturn, 1) := by decide +kernel
theorem dX12_asked_0 : decode cX12_asked 0 = .ok (.aload_n 0, 1) := by decide +kernel
theorem dX12_asked_1 : decode cX12_asked 1 = .ok (.iload_n 1, 1) := by decide +kernel
theorem dX12_asked_2 : decode cX12_asked 2 = .ok (.invokevirtual 369, 3) := by decide +kernel
theorem dX12_asked_5 : decode cX12_asked 5 = .ok (.ifCond .eq 31, 3) := by decide +kernel
theorem dX12_asked_36 : decode cX12_asked 36 = .ok (.ldc_w 344, 3) := by decide +kernel
theorem dX12_asked_39 : decode cX12_asked 39 = .ok (.ireturn, 1) := by decide +kernel
theorem dX12_asked_8 : decode cX12_asked 8 = .ok (.aload_n 0, 1) := by decide +kernel
theorem dX12_asked_9 : decode cX12_asked 9 = .ok (.iload_n 2, 1) := by decide +kernel
theorem dX12_asked_10 : decode cX12_asked 10 = .ok (.invokevirtual 338, 3) := by decide +kernel
theorem dX12_asked_13 : decode cX12_asked 13 = .ok (.ifCond .eq 23, 3) := by decide +kernel
theorem dX12_asked_16 : decode cX12_asked 16 = .ok (.aload_n 0, 1) := by decide +kernel
theorem dX12_asked_17 : decode cX12_asked 17 = .ok (.iload_n 1, 1) := by decide +kernel
theorem dX12_asked_18 : decode cX12_asked 18 = .ok (.aload_n 0, 1) := by decide +kernel
theorem dX12_asked_19 : decode cX12_asked 19 = .ok (.iload_n 2, 1) := by decide +kernel
theorem dX12_asked_20 : decode cX12_asked 20 = .ok (.invokevirtual 341, 3) := by decide +kernel
theorem dX12_asked_23 : decode cX12_asked 23 = .ok (.iload_n 3, 1) := by decide +kernel
theorem dX12_asked_24 : decode cX12_asked 24 = .ok (.aload_n 0, 1) := by decide +kernel
theorem dX12_asked_25 : decode cX12_asked 25 = .ok (.getfield 80, 3) := by decide +kernel
theorem dX12_asked_28 : decode cX12_asked 28 = .ok (.iload_n 1, 1) := by decide +kernel
theorem dX12_asked_29 : decode cX12_asked 29 = .ok (.iaload, 1) := by decide +kernel
theorem dX12_asked_30 : decode cX12_asked 30 = .ok (.invokevirtual 361, 3) := by decide +kernel
theorem dX12_asked_33 : decode cX12_asked 33 = .ok (.goto 6, 3) := by decide +kernel
theorem dX12_least_0 : decode cX12_least 0 = .ok (.aload_n 0, 1) := by decide +kernel
theorem dX12_least_1 : decode cX12_least 1 = .ok (.iload_n 1, 1) := by decide +kernel
theorem dX12_least_2 : decode cX12_least 2 = .ok (.invokevirtual 369, 3) := by decide +kernel
theorem dX12_least_5 : decode cX12_least 5 = .ok (.ifCond .ne 5, 3) := by decide +kernel
theorem dX12_least_10 : decode cX12_least 10 = .ok (.iconst (-1), 1) := by decide +kernel
theorem dX12_least_11 : decode cX12_least 11 = .ok (.istore_n 3, 1) := by decide +kernel
theorem dX12_least_12 : decode cX12_least 12 = .ok (.iconst 0, 1) := by decide +kernel
theorem dX12_least_13 : decode cX12_least 13 = .ok (.istore 4, 2) := by decide +kernel
theorem dX12_least_15 : decode cX12_least 15 = .ok (.iload 4, 2) := by decide +kernel
theorem dX12_least_17 : decode cX12_least 17 = .ok (.aload_n 0, 1) := by decide +kernel
theorem dX12_least_18 : decode cX12_least 18 = .ok (.getfield 20, 3) := by decide +kernel
theorem dX12_least_21 : decode cX12_least 21 = .ok (.aload_n 0, 1) := by decide +kernel
theorem dX12_least_22 : decode cX12_least 22 = .ok (.getfield 227, 3) := by decide +kernel
theorem dX12_least_25 : decode cX12_least 25 = .ok (.iaload, 1) := by decide +kernel
theorem dX12_least_26 : decode cX12_least 26 = .ok (.if_icmp .ge 59, 3) := by decide +kernel
theorem dX12_least_85 : decode cX12_least 85 = .ok (.iload_n 3, 1) := by decide +kernel
theorem dX12_least_86 : decode cX12_least 86 = .ok (.ireturn, 1) := by decide +kernel
theorem dX12_least_29 : decode cX12_least 29 = .ok (.aload_n 0, 1) := by decide +kernel
theorem dX12_least_30 : decode cX12_least 30 = .ok (.iload_n 1, 1) := by decide +kernel
theorem dX12_least_31 : decode cX12_least 31 = .ok (.aload_n 0, 1) := by decide +kernel
theorem dX12_least_32 : decode cX12_least 32 = .ok (.iload 4, 2) := by decide +kernel
theorem dX12_least_34 : decode cX12_least 34 = .ok (.invokevirtual 341, 3) := by decide +kernel
theorem dX12_least_37 : decode cX12_least 37 = .ok (.iload_n 2, 1) := by decide +kernel
theorem dX12_least_38 : decode cX12_least 38 = .ok (.aload_n 0, 1) := by decide +kernel
theorem dX12_least_39 : decode cX12_least 39 = .ok (.getfield 80, 3) := by decide +kernel
theorem dX12_least_42 : decode cX12_least 42 = .ok (.iload_n 1, 1) := by decide +kernel
theorem dX12_least_43 : decode cX12_least 43 = .ok (.iaload, 1) := by decide +kernel
theorem dX12_least_44 : decode cX12_least 44 = .ok (.invokevirtual 365, 3) := by decide +kernel
theorem dX12_least_47 : decode cX12_least 47 = .ok (.ifCond .eq 32, 3) := by decide +kernel
theorem dX12_least_79 : decode cX12_least 79 = .ok (.iinc 4 1, 3) := by decide +kernel
theorem dX12_least_82 : decode cX12_least 82 = .ok (.goto (-67), 3) := by decide +kernel
theorem dX12_least_50 : decode cX12_least 50 = .ok (.iload_n 3, 1) := by decide +kernel
theorem dX12_least_51 : decode cX12_least 51 = .ok (.ifCond .lt 25, 3) := by decide +kernel
theorem dX12_least_76 : decode cX12_least 76 = .ok (.iload 4, 2) := by decide +kernel
theorem dX12_least_78 : decode cX12_least 78 = .ok (.istore_n 3, 1) := by decide +kernel
theorem dX12_least_54 : decode cX12_least 54 = .ok (.aload_n 0, 1) := by decide +kernel
theorem dX12_least_55 : decode cX12_least 55 = .ok (.aload_n 0, 1) := by decide +kernel
theorem dX12_least_56 : decode cX12_least 56 = .ok (.iload 4, 2) := by decide +kernel
theorem dX12_least_58 : decode cX12_least 58 = .ok (.invokevirtual 341, 3) := by decide +kernel
theorem dX12_least_61 : decode cX12_least 61 = .ok (.invokevirtual 315, 3) := by decide +kernel
theorem dX12_least_64 : decode cX12_least 64 = .ok (.aload_n 0, 1) := by decide +kernel
theorem dX12_least_65 : decode cX12_least 65 = .ok (.aload_n 0, 1) := by decide +kernel
theorem dX12_least_66 : decode cX12_least 66 = .ok (.iload_n 3, 1) := by decide +kernel
theorem dX12_least_67 : decode cX12_least 67 = .ok (.invokevirtual 341, 3) := by decide +kernel
theorem dX12_least_70 : decode cX12_least 70 = .ok (.invokevirtual 315, 3) := by decide +kernel
theorem dX12_least_73 : decode cX12_least 73 = .ok (.if_icmp .ge 6, 3) := by decide +kernel
theorem dX12_least_8 : decode cX12_least 8 = .ok (.iconst (-1), 1) := by decide +kernel
theorem dX12_least_9 : decode cX12_least 9 = .ok (.ireturn, 1) := by decide +kernel
theorem dX12_left_0 : decode cX12_left 0 = .ok (.iconst 0, 1) := by decide +kernel
theorem dX12_left_1 : decode cX12_left 1 = .ok (.istore_n 2, 1) := by decide +kernel
theorem dX12_left_2 : decode cX12_left 2 = .ok (.iconst 0, 1) := by decide +kernel
theorem dX12_left_3 : decode cX12_left 3 = .ok (.istore_n 3, 1) := by decide +kernel
theorem dX12_left_4 : decode cX12_left 4 = .ok (.iload_n 3, 1) := by decide +kernel
theorem dX12_left_5 : decode cX12_left 5 = .ok (.aload_n 0, 1) := by decide +kernel
theorem dX12_left_6 : decode cX12_left 6 = .ok (.getfield 20, 3) := by decide +kernel
theorem dX12_left_9 : decode cX12_left 9 = .ok (.aload_n 0, 1) := by decide +kernel
theorem dX12_left_10 : decode cX12_left 10 = .ok (.getfield 227, 3) := by decide +kernel
theorem dX12_left_13 : decode cX12_left 13 = .ok (.iaload, 1) := by decide +kernel
theorem dX12_left_14 : decode cX12_left 14 = .ok (.if_icmp .ge 123, 3) := by decide +kernel
theorem dX12_left_137 : decode cX12_left 137 = .ok (.iload_n 2, 1) := by decide +kernel
theorem dX12_left_138 : decode cX12_left 138 = .ok (.ireturn, 1) := by decide +kernel
theorem dX12_left_17 : decode cX12_left 17 = .ok (.iconst 1, 1) := by decide +kernel
theorem dX12_left_18 : decode cX12_left 18 = .ok (.istore 4, 2) := by decide +kernel
theorem dX12_left_20 : decode cX12_left 20 = .ok (.iconst 0, 1) := by decide +kernel
theorem dX12_left_21 : decode cX12_left 21 = .ok (.istore 5, 2) := by decide +kernel
theorem dX12_left_23 : decode cX12_left 23 = .ok (.iload 5, 2) := by decide +kernel
theorem dX12_left_25 : decode cX12_left 25 = .ok (.aload_n 0, 1) := by decide +kernel
theorem dX12_left_26 : decode cX12_left 26 = .ok (.getfield 233, 3) := by decide +kernel
theorem dX12_left_29 : decode cX12_left 29 = .ok (.if_icmp .ge 87, 3) := by decide +kernel
theorem dX12_left_116 : decode cX12_left 116 = .ok (.iload_n 2, 1) := by decide +kernel
theorem dX12_left_117 : decode cX12_left 117 = .ok (.iload 4, 2) := by decide +kernel
theorem dX12_left_119 : decode cX12_left 119 = .ok (.ifCond .eq 9, 3) := by decide +kernel
theorem dX12_left_128 : decode cX12_left 128 = .ok (.iconst 0, 1) := by decide +kernel
theorem dX12_left_129 : decode cX12_left 129 = .ok (.ior, 1) := by decide +kernel
theorem dX12_left_130 : decode cX12_left 130 = .ok (.istore_n 2, 1) := by decide +kernel
theorem dX12_left_131 : decode cX12_left 131 = .ok (.iinc 3 1, 3) := by decide +kernel
theorem dX12_left_134 : decode cX12_left 134 = .ok (.goto (-130), 3) := by decide +kernel
theorem dX12_left_122 : decode cX12_left 122 = .ok (.iconst 1, 1) := by decide +kernel
theorem dX12_left_123 : decode cX12_left 123 = .ok (.iload_n 3, 1) := by decide +kernel
theorem dX12_left_124 : decode cX12_left 124 = .ok (.ishl, 1) := by decide +kernel
theorem dX12_left_125 : decode cX12_left 125 = .ok (.goto 4, 3) := by decide +kernel
theorem dX12_left_32 : decode cX12_left 32 = .ok (.iload 4, 2) := by decide +kernel
theorem dX12_left_34 : decode cX12_left 34 = .ok (.ifCond .eq 82, 3) := by decide +kernel
theorem dX12_left_37 : decode cX12_left 37 = .ok (.aload_n 0, 1) := by decide +kernel
theorem dX12_left_38 : decode cX12_left 38 = .ok (.getfield 101, 3) := by decide +kernel
theorem dX12_left_41 : decode cX12_left 41 = .ok (.iload 5, 2) := by decide +kernel
theorem dX12_left_43 : decode cX12_left 43 = .ok (.iaload, 1) := by decide +kernel
theorem dX12_left_44 : decode cX12_left 44 = .ok (.iload_n 1, 1) := by decide +kernel
theorem dX12_left_45 : decode cX12_left 45 = .ok (.if_icmp .gt 58, 3) := by decide +kernel
theorem dX12_left_103 : decode cX12_left 103 = .ok (.iconst 1, 1) := by decide +kernel
theorem dX12_left_104 : decode cX12_left 104 = .ok (.goto 4, 3) := by decide +kernel
theorem dX12_left_108 : decode cX12_left 108 = .ok (.istore 4, 2) := by decide +kernel
theorem dX12_left_110 : decode cX12_left 110 = .ok (.iinc 5 1, 3) := by decide +kernel
theorem dX12_left_113 : decode cX12_left 113 = .ok (.goto (-90), 3) := by decide +kernel
theorem dX12_left_48 : decode cX12_left 48 = .ok (.aload_n 0, 1) := by decide +kernel
theorem dX12_left_49 : decode cX12_left 49 = .ok (.getfield 104, 3) := by decide +kernel
theorem dX12_left_52 : decode cX12_left 52 = .ok (.iload 5, 2) := by decide +kernel
theorem dX12_left_54 : decode cX12_left 54 = .ok (.iaload, 1) := by decide +kernel
theorem dX12_left_55 : decode cX12_left 55 = .ok (.ifCond .lt 14, 3) := by decide +kernel
theorem dX12_left_69 : decode cX12_left 69 = .ok (.aload_n 0, 1) := by decide +kernel
theorem dX12_left_70 : decode cX12_left 70 = .ok (.aload_n 0, 1) := by decide +kernel
theorem dX12_left_71 : decode cX12_left 71 = .ok (.getfield 98, 3) := by decide +kernel
theorem dX12_left_74 : decode cX12_left 74 = .ok (.iload 5, 2) := by decide +kernel
theorem dX12_left_76 : decode cX12_left 76 = .ok (.iaload, 1) := by decide +kernel
theorem dX12_left_77 : decode cX12_left 77 = .ok (.aload_n 0, 1) := by decide +kernel
theorem dX12_left_78 : decode cX12_left 78 = .ok (.iload_n 3, 1) := by decide +kernel
theorem dX12_left_79 : decode cX12_left 79 = .ok (.invokevirtual 341, 3) := by decide +kernel
theorem dX12_left_82 : decode cX12_left 82 = .ok (.aload_n 0, 1) := by decide +kernel
theorem dX12_left_83 : decode cX12_left 83 = .ok (.getfield 107, 3) := by decide +kernel
theorem dX12_left_86 : decode cX12_left 86 = .ok (.iload 5, 2) := by decide +kernel
theorem dX12_left_88 : decode cX12_left 88 = .ok (.baload, 1) := by decide +kernel
theorem dX12_left_89 : decode cX12_left 89 = .ok (.iconst 0, 1) := by decide +kernel
theorem dX12_left_90 : decode cX12_left 90 = .ok (.invokevirtual 365, 3) := by decide +kernel
theorem dX12_left_93 : decode cX12_left 93 = .ok (.aload_n 0, 1) := by decide +kernel
theorem dX12_left_94 : decode cX12_left 94 = .ok (.getfield 110, 3) := by decide +kernel
theorem dX12_left_97 : decode cX12_left 97 = .ok (.iload 5, 2) := by decide +kernel
theorem dX12_left_99 : decode cX12_left 99 = .ok (.baload, 1) := by decide +kernel
theorem dX12_left_100 : decode cX12_left 100 = .ok (.if_icmp .ne 7, 3) := by decide +kernel
theorem dX12_left_107 : decode cX12_left 107 = .ok (.iconst 0, 1) := by decide +kernel
theorem dX12_left_58 : decode cX12_left 58 = .ok (.aload_n 0, 1) := by decide +kernel
theorem dX12_left_59 : decode cX12_left 59 = .ok (.getfield 104, 3) := by decide +kernel
theorem dX12_left_62 : decode cX12_left 62 = .ok (.iload 5, 2) := by decide +kernel
theorem dX12_left_64 : decode cX12_left 64 = .ok (.iaload, 1) := by decide +kernel
theorem dX12_left_65 : decode cX12_left 65 = .ok (.iload_n 1, 1) := by decide +kernel
theorem dX12_left_66 : decode cX12_left 66 = .ok (.if_icmp .le 37, 3) := by decide +kernel
theorem dX12_next_0 : decode cX12_next 0 = .ok (.aload_n 0, 1) := by decide +kernel
theorem dX12_next_1 : decode cX12_next 1 = .ok (.iload_n 2, 1) := by decide +kernel
theorem dX12_next_2 : decode cX12_next 2 = .ok (.invokevirtual 427, 3) := by decide +kernel
theorem dX12_next_5 : decode cX12_next 5 = .ok (.istore_n 3, 1) := by decide +kernel
theorem dX12_next_6 : decode cX12_next 6 = .ok (.iload_n 1, 1) := by decide +kernel
theorem dX12_next_7 : decode cX12_next 7 = .ok (.iconst 0, 1) := by decide +kernel
theorem dX12_next_8 : decode cX12_next 8 = .ok (.iconst 2, 1) := by decide +kernel
theorem dX12_next_9 : decode cX12_next 9 = .ok (.invokestatic 311, 3) := by decide +kernel
theorem dX12_next_12 : decode cX12_next 12 = .ok (.ifCond .eq 7, 3) := by decide +kernel
theorem dX12_next_19 : decode cX12_next 19 = .ok (.iconst (-1), 1) := by decide +kernel
theorem dX12_next_20 : decode cX12_next 20 = .ok (.ireturn, 1) := by decide +kernel
theorem dX12_next_15 : decode cX12_next 15 = .ok (.iload_n 3, 1) := by decide +kernel
theorem dX12_next_16 : decode cX12_next 16 = .ok (.ifCond .ne 5, 3) := by decide +kernel
theorem dX12_next_21 : decode cX12_next 21 = .ok (.iconst (-1), 1) := by decide +kernel
theorem dX12_next_22 : decode cX12_next 22 = .ok (.istore 4, 2) := by decide +kernel
theorem dX12_next_24 : decode cX12_next 24 = .ok (.iconst 0, 1) := by decide +kernel
theorem dX12_next_25 : decode cX12_next 25 = .ok (.istore 5, 2) := by decide +kernel
theorem dX12_next_27 : decode cX12_next 27 = .ok (.iconst 0, 1) := by decide +kernel
theorem dX12_next_28 : decode cX12_next 28 = .ok (.istore 6, 2) := by decide +kernel
theorem dX12_next_30 : decode cX12_next 30 = .ok (.iload 6, 2) := by decide +kernel
theorem dX12_next_32 : decode cX12_next 32 = .ok (.iconst 2, 1) := by decide +kernel
theorem dX12_next_33 : decode cX12_next 33 = .ok (.aload_n 0, 1) := by decide +kernel
theorem dX12_next_34 : decode cX12_next 34 = .ok (.getfield 24, 3) := by decide +kernel
theorem dX12_next_37 : decode cX12_next 37 = .ok (.aload_n 0, 1) := by decide +kernel
theorem dX12_next_38 : decode cX12_next 38 = .ok (.getfield 227, 3) := by decide +kernel
theorem dX12_next_41 : decode cX12_next 41 = .ok (.iaload, 1) := by decide +kernel
theorem dX12_next_42 : decode cX12_next 42 = .ok (.imul, 1) := by decide +kernel
theorem dX12_next_43 : decode cX12_next 43 = .ok (.if_icmp .ge 135, 3) := by decide +kernel
theorem dX12_next_178 : decode cX12_next 178 = .ok (.iload 4, 2) := by decide +kernel
theorem dX12_next_180 : decode cX12_next 180 = .ok (.ifCond .ge 7, 3) := by decide +kernel
theorem dX12_next_187 : decode cX12_next 187 = .ok (.iload_n 1, 1) := by decide +kernel
theorem dX12_next_188 : decode cX12_next 188 = .ok (.ifCond .ne 10, 3) := by decide +kernel
theorem dX12_next_198 : decode cX12_next 198 = .ok (.iload_n 1, 1) := by decide +kernel
theorem dX12_next_199 : decode cX12_next 199 = .ok (.iconst 1, 1) := by decide +kernel
theorem dX12_next_200 : decode cX12_next 200 = .ok (.if_icmp .ne 10, 3) := by decide +kernel
theorem dX12_next_210 : decode cX12_next 210 = .ok (.iload 5, 2) := by decide +kernel
theorem dX12_next_212 : decode cX12_next 212 = .ok (.ireturn, 1) := by decide +kernel
theorem dX12_next_203 : decode cX12_next 203 = .ok (.iload 4, 2) := by decide +kernel
theorem dX12_next_205 : decode cX12_next 205 = .ok (.iconst 2, 1) := by decide +kernel
theorem dX12_next_206 : decode cX12_next 206 = .ok (.irem, 1) := by decide +kernel
theorem dX12_next_207 : decode cX12_next 207 = .ok (.goto 5, 3) := by decide +kernel
theorem dX12_next_191 : decode cX12_next 191 = .ok (.iload 4, 2) := by decide +kernel
theorem dX12_next_193 : decode cX12_next 193 = .ok (.iconst 2, 1) := by decide +kernel
theorem dX12_next_194 : decode cX12_next 194 = .ok (.idiv, 1) := by decide +kernel
theorem dX12_next_195 : decode cX12_next 195 = .ok (.goto 17, 3) := by decide +kernel
theorem dX12_next_183 : decode cX12_next 183 = .ok (.iconst (-1), 1) := by decide +kernel
theorem dX12_next_184 : decode cX12_next 184 = .ok (.goto 28, 3) := by decide +kernel
theorem dX12_next_46 : decode cX12_next 46 = .ok (.iconst 0, 1) := by decide +kernel
theorem dX12_next_47 : decode cX12_next 47 = .ok (.istore 7, 2) := by decide +kernel
theorem dX12_next_49 : decode cX12_next 49 = .ok (.iconst 0, 1) := by decide +kernel
theorem dX12_next_50 : decode cX12_next 50 = .ok (.istore 8, 2) := by decide +kernel
theorem dX12_next_52 : decode cX12_next 52 = .ok (.iload 8, 2) := by decide +kernel
theorem dX12_next_54 : decode cX12_next 54 = .ok (.aload_n 0, 1) := by decide +kernel
theorem dX12_next_55 : decode cX12_next 55 = .ok (.getfield 20, 3) := by decide +kernel
theorem dX12_next_58 : decode cX12_next 58 = .ok (.aload_n 0, 1) := by decide +kernel
theorem dX12_next_59 : decode cX12_next 59 = .ok (.getfield 227, 3) := by decide +kernel
theorem dX12_next_62 : decode cX12_next 62 = .ok (.iaload, 1) := by decide +kernel
theorem dX12_next_63 : decode cX12_next 63 = .ok (.if_icmp .ge 60, 3) := by decide +kernel
theorem dX12_next_123 : decode cX12_next 123 = .ok (.iload 7, 2) := by decide +kernel
theorem dX12_next_125 : decode cX12_next 125 = .ok (.iload_n 3, 1) := by decide +kernel
theorem dX12_next_126 : decode cX12_next 126 = .ok (.invokestatic 372, 3) := by decide +kernel
theorem dX12_next_129 : decode cX12_next 129 = .ok (.iload 7, 2) := by decide +kernel
theorem dX12_next_131 : decode cX12_next 131 = .ok (.isub, 1) := by decide +kernel
theorem dX12_next_132 : decode cX12_next 132 = .ok (.if_icmp .le 8, 3) := by decide +kernel
theorem dX12_next_140 : decode cX12_next 140 = .ok (.iload_n 3, 1) := by decide +kernel
theorem dX12_next_141 : decode cX12_next 141 = .ok (.invokestatic 372, 3) := by decide +kernel
theorem dX12_next_144 : decode cX12_next 144 = .ok (.iload 7, 2) := by decide +kernel
theorem dX12_next_146 : decode cX12_next 146 = .ok (.isub, 1) := by decide +kernel
theorem dX12_next_147 : decode cX12_next 147 = .ok (.istore 8, 2) := by decide +kernel
theorem dX12_next_149 : decode cX12_next 149 = .ok (.iload 4, 2) := by decide +kernel
theorem dX12_next_151 : decode cX12_next 151 = .ok (.ifCond .lt 13, 3) := by decide +kernel
theorem dX12_next_164 : decode cX12_next 164 = .ok (.iload 6, 2) := by decide +kernel
theorem dX12_next_166 : decode cX12_next 166 = .ok (.istore 4, 2) := by decide +kernel
theorem dX12_next_168 : decode cX12_next 168 = .ok (.iload 8, 2) := by decide +kernel
theorem dX12_next_170 : decode cX12_next 170 = .ok (.istore 5, 2) := by decide +kernel
theorem dX12_next_172 : decode cX12_next 172 = .ok (.iinc 6 1, 3) := by decide +kernel
theorem dX12_next_175 : decode cX12_next 175 = .ok (.goto (-145), 3) := by decide +kernel
theorem dX12_next_154 : decode cX12_next 154 = .ok (.iload 8, 2) := by decide +kernel
theorem dX12_next_156 : decode cX12_next 156 = .ok (.iload 5, 2) := by decide +kernel
theorem dX12_next_158 : decode cX12_next 158 = .ok (.if_icmp .lt 6, 3) := by decide +kernel
theorem dX12_next_161 : decode cX12_next 161 = .ok (.goto 11, 3) := by decide +kernel
theorem dX12_next_135 : decode cX12_next 135 = .ok (.iload 7, 2) := by decide +kernel
theorem dX12_next_137 : decode cX12_next 137 = .ok (.goto 10, 3) := by decide +kernel
theorem dX12_next_66 : decode cX12_next 66 = .ok (.iload 7, 2) := by decide +kernel
theorem dX12_next_68 : decode cX12_next 68 = .ok (.iload_n 3, 1) := by decide +kernel
theorem dX12_next_69 : decode cX12_next 69 = .ok (.iload 8, 2) := by decide +kernel
theorem dX12_next_71 : decode cX12_next 71 = .ok (.ishr, 1) := by decide +kernel
theorem dX12_next_72 : decode cX12_next 72 = .ok (.iconst 1, 1) := by decide +kernel
theorem dX12_next_73 : decode cX12_next 73 = .ok (.iand, 1) := by decide +kernel
theorem dX12_next_74 : decode cX12_next 74 = .ok (.iconst 1, 1) := by decide +kernel
theorem dX12_next_75 : decode cX12_next 75 = .ok (.if_icmp .ne 38, 3) := by decide +kernel
theorem dX12_next_113 : decode cX12_next 113 = .ok (.iconst 0, 1) := by decide +kernel
theorem dX12_next_114 : decode cX12_next 114 = .ok (.iadd, 1) := by decide +kernel
theorem dX12_next_115 : decode cX12_next 115 = .ok (.istore 7, 2) := by decide +kernel
theorem dX12_next_117 : decode cX12_next 117 = .ok (.iinc 8 1, 3) := by decide +kernel
theorem dX12_next_120 : decode cX12_next 120 = .ok (.goto (-68), 3) := by decide +kernel
theorem dX12_next_78 : decode cX12_next 78 = .ok (.aload_n 0, 1) := by decide +kernel
theorem dX12_next_79 : decode cX12_next 79 = .ok (.iload 6, 2) := by decide +kernel
theorem dX12_next_81 : decode cX12_next 81 = .ok (.iconst 2, 1) := by decide +kernel
theorem dX12_next_82 : decode cX12_next 82 = .ok (.idiv, 1) := by decide +kernel
theorem dX12_next_83 : decode cX12_next 83 = .ok (.aload_n 0, 1) := by decide +kernel
theorem dX12_next_84 : decode cX12_next 84 = .ok (.iload 8, 2) := by decide +kernel
theorem dX12_next_86 : decode cX12_next 86 = .ok (.invokevirtual 341, 3) := by decide +kernel
theorem dX12_next_89 : decode cX12_next 89 = .ok (.iload 6, 2) := by decide +kernel
theorem dX12_next_91 : decode cX12_next 91 = .ok (.iconst 2, 1) := by decide +kernel
theorem dX12_next_92 : decode cX12_next 92 = .ok (.irem, 1) := by decide +kernel
theorem dX12_next_93 : decode cX12_next 93 = .ok (.iconst 1, 1) := by decide +kernel
theorem dX12_next_94 : decode cX12_next 94 = .ok (.if_icmp .ne 7, 3) := by decide +kernel
theorem dX12_next_101 : decode cX12_next 101 = .ok (.iconst 0, 1) := by decide +kernel
theorem dX12_next_102 : decode cX12_next 102 = .ok (.iconst 0, 1) := by decide +kernel
theorem dX12_next_103 : decode cX12_next 103 = .ok (.invokevirtual 365, 3) := by decide +kernel
theorem dX12_next_106 : decode cX12_next 106 = .ok (.ifCond .eq 7, 3) := by decide +kernel
theorem dX12_next_109 : decode cX12_next 109 = .ok (.iconst 1, 1) := by decide +kernel
theorem dX12_next_110 : decode cX12_next 110 = .ok (.goto 4, 3) := by decide +kernel
theorem dX12_next_97 : decode cX12_next 97 = .ok (.iconst 1, 1) := by decide +kernel
theorem dX12_next_98 : decode cX12_next 98 = .ok (.goto 4, 3) := by decide +kernel
theorem dX12_sing_0 : decode cX12_sing 0 = .ok (.iload_n 1, 1) := by decide +kernel
theorem dX12_sing_1 : decode cX12_sing 1 = .ok (.iconst 0, 1) := by decide +kernel
theorem dX12_sing_2 : decode cX12_sing 2 = .ok (.bipush 60, 2) := by decide +kernel
theorem dX12_sing_4 : decode cX12_sing 4 = .ok (.invokestatic 311, 3) := by decide +kernel
theorem dX12_sing_7 : decode cX12_sing 7 = .ok (.ifCond .eq 22, 3) := by decide +kernel
theorem dX12_sing_29 : decode cX12_sing 29 = .ok (.iconst (-1), 1) := by decide +kernel
theorem dX12_sing_30 : decode cX12_sing 30 = .ok (.ireturn, 1) := by decide +kernel
theorem dX12_sing_10 : decode cX12_sing 10 = .ok (.iload_n 2, 1) := by decide +kernel
theorem dX12_sing_11 : decode cX12_sing 11 = .ok (.iconst 1, 1) := by decide +kernel
theorem dX12_sing_12 : decode cX12_sing 12 = .ok (.bipush 9, 2) := by decide +kernel
theorem dX12_sing_14 : decode cX12_sing 14 = .ok (.invokestatic 311, 3) := by decide +kernel
theorem dX12_sing_17 : decode cX12_sing 17 = .ok (.ifCond .eq 12, 3) := by decide +kernel
theorem dX12_sing_20 : decode cX12_sing 20 = .ok (.aload_n 0, 1) := by decide +kernel
theorem dX12_sing_21 : decode cX12_sing 21 = .ok (.getfield 236, 3) := by decide +kernel
theorem dX12_sing_24 : decode cX12_sing 24 = .ok (.bipush 40, 2) := by decide +kernel
theorem dX12_sing_26 : decode cX12_sing 26 = .ok (.if_icmp .ne 5, 3) := by decide +kernel
theorem dX12_sing_31 : decode cX12_sing 31 = .ok (.aload_n 0, 1) := by decide +kernel
theorem dX12_sing_32 : decode cX12_sing 32 = .ok (.getfield 36, 3) := by decide +kernel
theorem dX12_sing_35 : decode cX12_sing 35 = .ok (.sipush 1120, 3) := by decide +kernel
theorem dX12_sing_38 : decode cX12_sing 38 = .ok (.aload_n 0, 1) := by decide +kernel
theorem dX12_sing_39 : decode cX12_sing 39 = .ok (.getfield 236, 3) := by decide +kernel
theorem dX12_sing_42 : decode cX12_sing 42 = .ok (.iadd, 1) := by decide +kernel
theorem dX12_sing_43 : decode cX12_sing 43 = .ok (.iload_n 1, 1) := by decide +kernel
theorem dX12_sing_44 : decode cX12_sing 44 = .ok (.iastore, 1) := by decide +kernel
theorem dX12_sing_45 : decode cX12_sing 45 = .ok (.aload_n 0, 1) := by decide +kernel
theorem dX12_sing_46 : decode cX12_sing 46 = .ok (.getfield 39, 3) := by decide +kernel
theorem dX12_sing_49 : decode cX12_sing 49 = .ok (.sipush 1120, 3) := by decide +kernel
theorem dX12_sing_52 : decode cX12_sing 52 = .ok (.aload_n 0, 1) := by decide +kernel
theorem dX12_sing_53 : decode cX12_sing 53 = .ok (.getfield 236, 3) := by decide +kernel
theorem dX12_sing_56 : decode cX12_sing 56 = .ok (.iadd, 1) := by decide +kernel
theorem dX12_sing_57 : decode cX12_sing 57 = .ok (.iload_n 2, 1) := by decide +kernel
theorem dX12_sing_58 : decode cX12_sing 58 = .ok (.iastore, 1) := by decide +kernel
theorem dX12_sing_59 : decode cX12_sing 59 = .ok (.aload_n 0, 1) := by decide +kernel
theorem dX12_sing_60 : decode cX12_sing 60 = .ok (.dup, 1) := by decide +kernel
theorem dX12_sing_61 : decode cX12_sing 61 = .ok (.getfield 236, 3) := by decide +kernel
theorem dX12_sing_64 : decode cX12_sing 64 = .ok (.iconst 1, 1) := by decide +kernel
theorem dX12_sing_65 : decode cX12_sing 65 = .ok (.iadd, 1) := by decide +kernel
theorem dX12_sing_66 : decode cX12_sing 66 = .ok (.putfield 236, 3) := by decide +kernel
theorem dX12_sing_69 : decode cX12_sing 69 = .ok (.iconst 0, 1) := by decide +kernel
theorem dX12_sing_70 : decode cX12_sing 70 = .ok (.istore_n 3, 1) := by decide +kernel
theorem dX12_sing_71 : decode cX12_sing 71 = .ok (.iconst 0, 1) := by decide +kernel
theorem dX12_sing_72 : decode cX12_sing 72 = .ok (.istore 4, 2) := by decide +kernel
theorem dX12_sing_74 : decode cX12_sing 74 = .ok (.iload 4, 2) := by decide +kernel
theorem dX12_sing_76 : decode cX12_sing 76 = .ok (.aload_n 0, 1) := by decide +kernel
theorem dX12_sing_77 : decode cX12_sing 77 = .ok (.getfield 24, 3) := by decide +kernel
theorem dX12_sing_80 : decode cX12_sing 80 = .ok (.aload_n 0, 1) := by decide +kernel
theorem dX12_sing_81 : decode cX12_sing 81 = .ok (.getfield 227, 3) := by decide +kernel
theorem dX12_sing_84 : decode cX12_sing 84 = .ok (.iaload, 1) := by decide +kernel
theorem dX12_sing_85 : decode cX12_sing 85 = .ok (.if_icmp .ge 70, 3) := by decide +kernel
theorem dX12_sing_155 : decode cX12_sing 155 = .ok (.iload_n 3, 1) := by decide +kernel
theorem dX12_sing_156 : decode cX12_sing 156 = .ok (.ireturn, 1) := by decide +kernel
theorem dX12_sing_88 : decode cX12_sing 88 = .ok (.aload_n 0, 1) := by decide +kernel
theorem dX12_sing_89 : decode cX12_sing 89 = .ok (.getfield 77, 3) := by decide +kernel
theorem dX12_sing_92 : decode cX12_sing 92 = .ok (.iload 4, 2) := by decide +kernel
theorem dX12_sing_94 : decode cX12_sing 94 = .ok (.baload, 1) := by decide +kernel
theorem dX12_sing_95 : decode cX12_sing 95 = .ok (.ifCond .ne 54, 3) := by decide +kernel
theorem dX12_sing_149 : decode cX12_sing 149 = .ok (.iinc 4 1, 3) := by decide +kernel
theorem dX12_sing_152 : decode cX12_sing 152 = .ok (.goto (-78), 3) := by decide +kernel
theorem dX12_sing_98 : decode cX12_sing 98 = .ok (.aload_n 0, 1) := by decide +kernel
theorem dX12_sing_99 : decode cX12_sing 99 = .ok (.iload 4, 2) := by decide +kernel
theorem dX12_sing_101 : decode cX12_sing 101 = .ok (.bipush 28, 2) := by decide +kernel
theorem dX12_sing_103 : decode cX12_sing 103 = .ok (.aload_n 0, 1) := by decide +kernel
theorem dX12_sing_104 : decode cX12_sing 104 = .ok (.getfield 239, 3) := by decide +kernel
theorem dX12_sing_107 : decode cX12_sing 107 = .ok (.aload_n 0, 1) := by decide +kernel
theorem dX12_sing_108 : decode cX12_sing 108 = .ok (.getfield 80, 3) := by decide +kernel
theorem dX12_sing_111 : decode cX12_sing 111 = .ok (.iload 4, 2) := by decide +kernel
theorem dX12_sing_113 : decode cX12_sing 113 = .ok (.iaload, 1) := by decide +kernel
theorem dX12_sing_114 : decode cX12_sing 114 = .ok (.invokevirtual 365, 3) := by decide +kernel
theorem dX12_sing_117 : decode cX12_sing 117 = .ok (.ifCond .ne 6, 3) := by decide +kernel
theorem dX12_sing_123 : decode cX12_sing 123 = .ok (.aload_n 0, 1) := by decide +kernel
theorem dX12_sing_124 : decode cX12_sing 124 = .ok (.getfield 77, 3) := by decide +kernel
theorem dX12_sing_127 : decode cX12_sing 127 = .ok (.iload 4, 2) := by decide +kernel
theorem dX12_sing_129 : decode cX12_sing 129 = .ok (.iconst 1, 1) := by decide +kernel
theorem dX12_sing_130 : decode cX12_sing 130 = .ok (.bastore, 1) := by decide +kernel
theorem dX12_sing_131 : decode cX12_sing 131 = .ok (.aload_n 0, 1) := by decide +kernel
theorem dX12_sing_132 : decode cX12_sing 132 = .ok (.getfield 80, 3) := by decide +kernel
theorem dX12_sing_135 : decode cX12_sing 135 = .ok (.iload 4, 2) := by decide +kernel
theorem dX12_sing_137 : decode cX12_sing 137 = .ok (.dup2, 1) := by decide +kernel
theorem dX12_sing_138 : decode cX12_sing 138 = .ok (.iaload, 1) := by decide +kernel
theorem dX12_sing_139 : decode cX12_sing 139 = .ok (.iconst 1, 1) := by decide +kernel
theorem dX12_sing_140 : decode cX12_sing 140 = .ok (.iadd, 1) := by decide +kernel
theorem dX12_sing_141 : decode cX12_sing 141 = .ok (.iastore, 1) := by decide +kernel
theorem dX12_sing_142 : decode cX12_sing 142 = .ok (.iload_n 3, 1) := by decide +kernel
theorem dX12_sing_143 : decode cX12_sing 143 = .ok (.iconst 1, 1) := by decide +kernel
theorem dX12_sing_144 : decode cX12_sing 144 = .ok (.iload 4, 2) := by decide +kernel
theorem dX12_sing_146 : decode cX12_sing 146 = .ok (.ishl, 1) := by decide +kernel
theorem dX12_sing_147 : decode cX12_sing 147 = .ok (.ior, 1) := by decide +kernel
theorem dX12_sing_148 : decode cX12_sing 148 = .ok (.istore_n 3, 1) := by decide +kernel
theorem dX12_sing_120 : decode cX12_sing 120 = .ok (.goto 29, 3) := by decide +kernel
theorem dX12_song_0 : decode cX12_song 0 = .ok (.aload_n 0, 1) := by decide +kernel
theorem dX12_song_1 : decode cX12_song 1 = .ok (.iload_n 1, 1) := by decide +kernel
theorem dX12_song_2 : decode cX12_song 2 = .ok (.invokevirtual 338, 3) := by decide +kernel
theorem dX12_song_5 : decode cX12_song 5 = .ok (.ifCond .eq 33, 3) := by decide +kernel
theorem dX12_song_38 : decode cX12_song 38 = .ok (.iconst (-1), 1) := by decide +kernel
theorem dX12_song_39 : decode cX12_song 39 = .ok (.ireturn, 1) := by decide +kernel
theorem dX12_song_8 : decode cX12_song 8 = .ok (.iload_n 2, 1) := by decide +kernel
theorem dX12_song_9 : decode cX12_song 9 = .ok (.bipush (-60), 2) := by decide +kernel
theorem dX12_song_11 : decode cX12_song 11 = .ok (.bipush 60, 2) := by decide +kernel
theorem dX12_song_13 : decode cX12_song 13 = .ok (.invokestatic 311, 3) := by decide +kernel
theorem dX12_song_16 : decode cX12_song 16 = .ok (.ifCond .eq 22, 3) := by decide +kernel
theorem dX12_song_19 : decode cX12_song 19 = .ok (.aload_n 0, 1) := by decide +kernel
theorem dX12_song_20 : decode cX12_song 20 = .ok (.getfield 236, 3) := by decide +kernel
theorem dX12_song_23 : decode cX12_song 23 = .ok (.aload_n 0, 1) := by decide +kernel
theorem dX12_song_24 : decode cX12_song 24 = .ok (.aload_n 0, 1) := by decide +kernel
theorem dX12_song_25 : decode cX12_song 25 = .ok (.iload_n 1, 1) := by decide +kernel
theorem dX12_song_26 : decode cX12_song 26 = .ok (.invokevirtual 341, 3) := by decide +kernel
theorem dX12_song_29 : decode cX12_song 29 = .ok (.invokevirtual 315, 3) := by decide +kernel
theorem dX12_song_32 : decode cX12_song 32 = .ok (.iadd, 1) := by decide +kernel
theorem dX12_song_33 : decode cX12_song 33 = .ok (.bipush 40, 2) := by decide +kernel
theorem dX12_song_35 : decode cX12_song 35 = .ok (.if_icmp .le 5, 3) := by decide +kernel
theorem dX12_song_40 : decode cX12_song 40 = .ok (.bipush 40, 2) := by decide +kernel
theorem dX12_song_42 : decode cX12_song 42 = .ok (.aload_n 0, 1) := by decide +kernel
theorem dX12_song_43 : decode cX12_song 43 = .ok (.iload_n 1, 1) := by decide +kernel
theorem dX12_song_44 : decode cX12_song 44 = .ok (.invokevirtual 341, 3) := by decide +kernel
theorem dX12_song_47 : decode cX12_song 47 = .ok (.imul, 1) := by decide +kernel
theorem dX12_song_48 : decode cX12_song 48 = .ok (.istore_n 3, 1) := by decide +kernel
theorem dX12_song_49 : decode cX12_song 49 = .ok (.iconst 0, 1) := by decide +kernel
theorem dX12_song_50 : decode cX12_song 50 = .ok (.istore 4, 2) := by decide +kernel
theorem dX12_song_52 : decode cX12_song 52 = .ok (.iload 4, 2) := by decide +kernel
theorem dX12_song_54 : decode cX12_song 54 = .ok (.aload_n 0, 1) := by decide +kernel
theorem dX12_song_55 : decode cX12_song 55 = .ok (.aload_n 0, 1) := by decide +kernel
theorem dX12_song_56 : decode cX12_song 56 = .ok (.iload_n 1, 1) := by decide +kernel
theorem dX12_song_57 : decode cX12_song 57 = .ok (.invokevirtual 341, 3) := by decide +kernel
theorem dX12_song_60 : decode cX12_song 60 = .ok (.invokevirtual 315, 3) := by decide +kernel
theorem dX12_song_63 : decode cX12_song 63 = .ok (.if_icmp .ge 31, 3) := by decide +kernel
theorem dX12_song_94 : decode cX12_song 94 = .ok (.iconst 0, 1) := by decide +kernel
theorem dX12_song_95 : decode cX12_song 95 = .ok (.istore 4, 2) := by decide +kernel
theorem dX12_song_97 : decode cX12_song 97 = .ok (.iconst 0, 1) := by decide +kernel
theorem dX12_song_98 : decode cX12_song 98 = .ok (.istore 5, 2) := by decide +kernel
theorem dX12_song_100 : decode cX12_song 100 = .ok (.iload 5, 2) := by decide +kernel
theorem dX12_song_102 : decode cX12_song 102 = .ok (.aload_n 0, 1) := by decide +kernel
theorem dX12_song_103 : decode cX12_song 103 = .ok (.aload_n 0, 1) := by decide +kernel
theorem dX12_song_104 : decode cX12_song 104 = .ok (.iload_n 1, 1) := by decide +kernel
theorem dX12_song_105 : decode cX12_song 105 = .ok (.invokevirtual 341, 3) := by decide +kernel
theorem dX12_song_108 : decode cX12_song 108 = .ok (.invokevirtual 315, 3) := by decide +kernel
theorem dX12_song_111 : decode cX12_song 111 = .ok (.if_icmp .ge 38, 3) := by decide +kernel
theorem dX12_song_149 : decode cX12_song 149 = .ok (.iload 4, 2) := by decide +kernel
theorem dX12_song_151 : decode cX12_song 151 = .ok (.ireturn, 1) := by decide +kernel
theorem dX12_song_114 : decode cX12_song 114 = .ok (.iload 4, 2) := by decide +kernel
theorem dX12_song_116 : decode cX12_song 116 = .ok (.aload_n 0, 1) := by decide +kernel
theorem dX12_song_117 : decode cX12_song 117 = .ok (.aload_n 0, 1) := by decide +kernel
theorem dX12_song_118 : decode cX12_song 118 = .ok (.getfield 36, 3) := by decide +kernel
theorem dX12_song_121 : decode cX12_song 121 = .ok (.iload_n 3, 1) := by decide +kernel
theorem dX12_song_122 : decode cX12_song 122 = .ok (.iload 5, 2) := by decide +kernel
theorem dX12_song_124 : decode cX12_song 124 = .ok (.iadd, 1) := by decide +kernel
theorem dX12_song_125 : decode cX12_song 125 = .ok (.iaload, 1) := by decide +kernel
theorem dX12_song_126 : decode cX12_song 126 = .ok (.iload_n 2, 1) := by decide +kernel
theorem dX12_song_127 : decode cX12_song 127 = .ok (.iadd, 1) := by decide +kernel
theorem dX12_song_128 : decode cX12_song 128 = .ok (.aload_n 0, 1) := by decide +kernel
theorem dX12_song_129 : decode cX12_song 129 = .ok (.getfield 39, 3) := by decide +kernel
theorem dX12_song_132 : decode cX12_song 132 = .ok (.iload_n 3, 1) := by decide +kernel
theorem dX12_song_133 : decode cX12_song 133 = .ok (.iload 5, 2) := by decide +kernel
theorem dX12_song_135 : decode cX12_song 135 = .ok (.iadd, 1) := by decide +kernel
theorem dX12_song_136 : decode cX12_song 136 = .ok (.iaload, 1) := by decide +kernel
theorem dX12_song_137 : decode cX12_song 137 = .ok (.invokevirtual 420, 3) := by decide +kernel
theorem dX12_song_140 : decode cX12_song 140 = .ok (.ior, 1) := by decide +kernel
theorem dX12_song_141 : decode cX12_song 141 = .ok (.istore 4, 2) := by decide +kernel
theorem dX12_song_143 : decode cX12_song 143 = .ok (.iinc 5 1, 3) := by decide +kernel
theorem dX12_song_146 : decode cX12_song 146 = .ok (.goto (-46), 3) := by decide +kernel
theorem dX12_song_66 : decode cX12_song 66 = .ok (.aload_n 0, 1) := by decide +kernel
theorem dX12_song_67 : decode cX12_song 67 = .ok (.getfield 36, 3) := by decide +kernel
theorem dX12_song_70 : decode cX12_song 70 = .ok (.iload_n 3, 1) := by decide +kernel
theorem dX12_song_71 : decode cX12_song 71 = .ok (.iload 4, 2) := by decide +kernel
theorem dX12_song_73 : decode cX12_song 73 = .ok (.iadd, 1) := by decide +kernel
theorem dX12_song_74 : decode cX12_song 74 = .ok (.iaload, 1) := by decide +kernel
theorem dX12_song_75 : decode cX12_song 75 = .ok (.iload_n 2, 1) := by decide +kernel
theorem dX12_song_76 : decode cX12_song 76 = .ok (.iadd, 1) := by decide +kernel
theorem dX12_song_77 : decode cX12_song 77 = .ok (.iconst 0, 1) := by decide +kernel
theorem dX12_song_78 : decode cX12_song 78 = .ok (.bipush 60, 2) := by decide +kernel
theorem dX12_song_80 : decode cX12_song 80 = .ok (.invokestatic 311, 3) := by decide +kernel
theorem dX12_song_83 : decode cX12_song 83 = .ok (.ifCond .ne 5, 3) := by decide +kernel
theorem dX12_song_88 : decode cX12_song 88 = .ok (.iinc 4 1, 3) := by decide +kernel
theorem dX12_song_91 : decode cX12_song 91 = .ok (.goto (-39), 3) := by decide +kernel
theorem dX12_song_86 : decode cX12_song 86 = .ok (.iconst (-1), 1) := by decide +kernel
theorem dX12_song_87 : decode cX12_song 87 = .ok (.ireturn, 1) := by decide +kernel
set_option maxHeartbeats 4000000 in
set_option maxRecDepth 100000 in
theorem m_bitsAny (l : Launch) (G : va_G) (cy : Nat → ClassId) (sz : Nat)  (n : Int32)    : Met l yX12_bitsOf (.code yX12_bitsOf cX12_bitsOf 3 (some .int) :: TBg) ({ frames := 1, cells := 0, slots := 0, locals := 64 }) (va_Pc [.int n] (En G cy [] sz)) (va_Qi (fun (r : Int32) (_ : Unit) => True) (fun _ _ => True) (va_A [] sz)) 0 0 (va_A [] sz) := by
  refine Met.ofW (cc := cX12_bitsOf) (maxL := 3) (ret := (some .int)) (by decide) rfl ?_
  intro p e s m args below meth c s₁ B hml hv9
  obtain ⟨rfl, hsz, hP, hK, hD0, hN⟩ := hv9
  have hx := B.exec
  have hb := B.bytes
  have hr := B.returns
  have hts := atoms_spec (ws := .code yX12_bitsOf cX12_bitsOf 3 (some .int) :: TBg) B.pre
  have ht : ∀ w ∈ TBg, w.before _ s = true := fun w h => hts w (List.mem_cons_of_mem _ h)
  have hown : s.vm.findClass RX12 = some m.cls := findClass_of_methodNamed B.named
  have hlocks := B.notSynchronized
  subst hsz
  generalize hAe : va_A [] s.heap.size = A at ⊢
  have hA : ∀ q : Nat, s.heap.size ≤ q → A q := fun q h => by rw [← hAe]; exact Or.inr h
  have hS : va_S A s.heap s.heap [] := va_S.rf
  have hl := lv_entry ([.int n]) (n := 3) (Nat.le_of_ble_eq_true rfl)
  rw [lg_entry_eq]
  generalize (lg_sl ([.int n]) ++ List.replicate (3 - (lg_sl ([.int n])).length) Slot.unset).toArray = ls at hl ⊢
  have hl : lv_has ls 3 [(0, .int n)] := hl
  have z0 : (0 : Int32).toInt = 0 := by decide
  have z1 : (1 : Int32).toInt = 1 := by decide
  have z2 : (31 : Int32).toInt = 31 := by decide
  refine lv_iconst (v := 0) hx hb dX12_bitsOf_0 (by decide) ?_
  refine lv_istore_n (lv' := [(1, .int 0), (0, .int n)]) hx hb dX12_bitsOf_1 rfl hl (by decide) rfl (fun ls hl => ?_)
  refine lv_iconst (v := 0) hx hb dX12_bitsOf_2 (by decide) ?_
  refine lv_istore_n (lv' := [(2, .int 0), (1, .int 0), (0, .int n)]) hx hb dX12_bitsOf_3 rfl hl (by decide) rfl (fun ls hl => ?_)
  refine W.widen (k := 0) (n := 0) (Nat.le_of_ble_eq_true rfl) (Nat.le_of_ble_eq_true rfl) ?_
  have lp_1 : ∀ (N : Nat) (x2_1 : Int32) (x1_1 : Int32) (H : Heap) (locs : List Loc) (ls : Array Slot), (0 ≤ x2_1.toInt ∧ x2_1.toInt ≤ 31) → (31 - x2_1.toInt).toNat < N → va_P G vwCl [] H → va_S A s.heap H locs → lv_has ls 3 [(2, .int x2_1), (1, .int x1_1), (0, .int n)] → W p l e (headSpec (.code yX12_bitsOf cX12_bitsOf 3 (some .int) :: TBg) ({ frames := 1, cells := 0, slots := 0, locals := 64 })).room s m ([.int n] : List Value).toArray below meth c H locs 0 0 (MQ below (va_Qi (fun (r : Int32) (_ : Unit) => True) (fun _ _ => True) A) ([.int n] : List Value).toArray s 0 0 A) (F0 m 4 ls []) := by
    intro N
    induction N with
    | zero => intro x2_1 x1_1 H locs ls qf1_0 hm hP hS hl; exact absurd hm (Nat.not_lt_zero _)
    | succ N ih_1 =>
      intro x2_1 x1_1 H locs ls qf1_0 hm hP hS hl
      refine lv_iload_n hx hb dX12_bitsOf_4 rfl (lv_at hl 0 rfl) ?_
      refine lv_bipush (v := 31) hx hb dX12_bitsOf_5 (by decide) ?_
      refine lv_icmp_ge (tgt := 24) hx hb dX12_bitsOf_7 (by decide) (fun c_2 => ?_) (fun c_2 => ?_)
      · have q_3 : (31 : Int32).toInt ≤ x2_1.toInt := (ow_le _ _).mp c_2
        refine lv_iload_n hx hb dX12_bitsOf_24 rfl (lv_at hl 1 rfl) ?_
        refine W.widen (k := 0) (n := 0) (Nat.le_of_ble_eq_true rfl) (Nat.le_of_ble_eq_true rfl) ?_
        exact W.iret (v := x1_1) hx hb hr (fun t ht9 hW => ⟨⟨x1_1, (), rfl, trivial, trivial⟩, hS.F ht9⟩) hS.2.2 dX12_bitsOf_25
      · have q_4 : x2_1.toInt < (31 : Int32).toInt := by have := (not_congr (ow_le _ _)).mp c_2; omega
        refine lv_iload_n hx hb dX12_bitsOf_10 rfl (lv_at hl 1 rfl) ?_
        refine lv_iload_n hx hb dX12_bitsOf_11 rfl (lv_at hl 2 rfl) ?_
        refine lv_iload_n hx hb dX12_bitsOf_12 rfl (lv_at hl 0 rfl) ?_
        refine lv_ishr hx hb dX12_bitsOf_13 ?_
        refine lv_topi (fun v_5 ev_5 => ?_)
        refine lv_iconst (v := 1) hx hb dX12_bitsOf_14 (by decide) ?_
        refine lv_iand hx hb dX12_bitsOf_15 ?_
        refine lv_topi (fun v_6 ev_6 => ?_)
        have q_7 : 0 ≤ v_6.toInt ∧ v_6.toInt ≤ 1 := by rw [ev_6]; exact ow_and1 _
        refine lv_iadd hx hb dX12_bitsOf_16 ?_
        refine lv_topi (fun v_8 ev_8 => ?_)
        refine lv_istore_n (lv' := [(1, .int v_8), (2, .int x2_1), (0, .int n)]) hx hb dX12_bitsOf_17 rfl hl (by decide) rfl (fun ls hl => ?_)
        obtain ⟨v_9, ev_9⟩ : ∃ y : Int32, y = x2_1 + 1 := ⟨_, rfl⟩
        refine lv_iinc (v := v_9) (lv' := [(2, .int v_9), (1, .int v_8), (0, .int n)]) hx hb dX12_bitsOf_18 hl (k := 1) rfl (by rw [ev_9]; rfl) (by decide) rfl (fun ls hl => ?_)
        have q_10 : v_9.toInt = x2_1.toInt + 1 := by have := ow_add ev_9 (by omega) (by omega); omega
        refine lv_goto (tgt := 4) hx hb dX12_bitsOf_21 (by decide) ?_
        refine W.widen (k := 0) (n := 0) (Nat.le_of_ble_eq_true rfl) (Nat.le_of_ble_eq_true rfl) ?_
        exact ih_1 v_9 v_8 _ _ _ (by omega) (by omega) hP hS (lv_sub hl [0, 1, 2] rfl)
  exact lp_1 _ (0) (0) _ _ _ (by omega) (Nat.lt_succ_self _) hP hS (lv_sub hl [0, 1, 2] rfl)
set_option maxHeartbeats 4000000 in
set_option maxRecDepth 100000 in
theorem m_doors (l : Launch) (G : va_G) (cy : Nat → ClassId) (sz : Nat) (mo : Nat) (h : Nat → Nat) (T : Int) (v : Nat → Int32) (nm : Int64) (f : Nat → Nat → Int32) (g : Nat → Nat → Int64) (n : Int32) (n2 : Int32)  (hv : MIv T v) (hf : MIf f) (hR : RI v f) (hL : WL v f)  : Met l yX12_doors (.code yX12_doors cX12_doors 5 (some .int) :: TBg) ({ frames := 8, cells := 0, slots := 0, locals := 512 }) (va_Pc [.ref mo, .int n, .int n2] (En G cy (WMs cy mo h v nm f g) sz)) (va_Qi (fun (r : Int32) (u : Nat → Int32) => True) (fun u t => Ex G (va_A (WMs cy mo h v nm f g) sz) (WMs cy mo h v nm (va_up f 28 u) g) t) (va_A (WMs cy mo h v nm f g) sz)) 0 0 (va_A (WMs cy mo h v nm f g) sz) := by
  refine Met.ofW (cc := cX12_doors) (maxL := 5) (ret := (some .int)) (by decide) rfl ?_
  intro p e s m args below meth c s₁ B hml hv9
  obtain ⟨rfl, hsz, hP, hK, hD0, hN⟩ := hv9
  have hx := B.exec
  have hb := B.bytes
  have hr := B.returns
  have hts := atoms_spec (ws := .code yX12_doors cX12_doors 5 (some .int) :: TBg) B.pre
  have ht : ∀ w ∈ TBg, w.before _ s = true := fun w h => hts w (List.mem_cons_of_mem _ h)
  have hown : s.vm.findClass RX12 = some m.cls := findClass_of_methodNamed B.named
  have hlocks := B.notSynchronized
  subst hsz
  have hD := hD0.self (sz := s.heap.size)
  generalize hAe : va_A (WMs cy mo h v nm f g) s.heap.size = A at hD ⊢
  have hA : ∀ q : Nat, s.heap.size ≤ q → A q := fun q h => by rw [← hAe]; exact Or.inr h
  have hS : va_S A s.heap s.heap [] := va_S.rf
  have hl := lv_entry ([.ref mo, .int n, .int n2]) (n := 5) (Nat.le_of_ble_eq_true rfl)
  rw [lg_entry_eq]
  generalize (lg_sl ([.ref mo, .int n, .int n2]) ++ List.replicate (5 - (lg_sl ([.ref mo, .int n, .int n2])).length) Slot.unset).toArray = ls at hl ⊢
  have hl : lv_has ls 5 [(0, .ref mo), (1, .int n), (2, .int n2)] := hl
  have z0 : (-1 : Int32).toInt = -1 := by decide
  have z1 : (0 : Int32).toInt = 0 := by decide
  have z2 : (1 : Int32).toInt = 1 := by decide
  have hP : va_P G vwCl (WMs cy mo h v nm (va_up f 28 (f 28)) g) s.heap := by rw [va_up_id]; exact hP
  have hD : va_D A (WMs cy mo h v nm (va_up f 28 (f 28)) g) := by rw [va_up_id]; exact hD
  have hf0 := hf
  have hR0 := hR
  have hL0 := hL
  have hf : MIf (va_up f 28 (f 28)) := MIf.any hf _
  have hR : RI v (va_up f 28 (f 28)) := RI.up 28 hR (by decide)
  have hL : WL v (va_up f 28 (f 28)) := WL.upf 28 hL (by decide)
  refine lv_aload_n hx hb dX12_doors_0 rfl (lv_at hl 0 rfl) ?_
  refine lv_iload_n hx hb dX12_doors_1 rfl (lv_at hl 1 rfl) ?_
  have hFc := fr_new hS hA
  refine va_calli (va_runV (As := [.int n]) (rest := []) ⟨hx, hb, hml, hown, ht⟩ (m_isTune l G cy _ mo h T v nm (va_up f 28 (f 28)) g n  hv hf hR hL) (cwV 1 ht (gv k_90 k_91 k_92 k_61 k_89) rfl rfl rfl (by decide +kernel) ⟨Nat.le_of_ble_eq_true rfl, Nat.le_of_ble_eq_true rfl⟩) ⟨En.blind, va_recv hK hP (ci := 12) (q0 := 0) rfl rfl, fun U hU hW => ⟨rfl, En.of hU hW hP hK hD hN⟩⟩ rfl rfl hl.1 rfl (lv_room (Nat.le_of_ble_eq_true rfl)) dX12_doors_2 ⟨Nat.le_of_ble_eq_true rfl, Nat.le_of_ble_eq_true rfl⟩) hS (fun q _ h => hFc q h) hFc (fun r_u_1 u_1 t9 H locs ht9 hvm hw hB hz1 hk1 hS => ?_)
  have hP := fr_keep hP hk1
  have wu_1 := hw
  clear hFc hk1 hz1 hB hw
  refine lv_if_ne (tgt := 10) hx hb dX12_doors_5 (by decide) (fun c_2 => ?_) (fun c_2 => ?_)
  · have q_3 : ¬ r_u_1.toInt = (0 : Int32).toInt := by have := (not_congr (ow_eq _ _)).mp c_2; omega
    refine lv_iconst (v := 0) hx hb dX12_doors_10 (by decide) ?_
    refine lv_istore_n (lv' := [(3, .int 0), (0, .ref mo), (1, .int n), (2, .int n2)]) hx hb dX12_doors_11 rfl hl (by decide) rfl (fun ls hl => ?_)
    refine lv_iconst (v := 0) hx hb dX12_doors_12 (by decide) ?_
    refine lv_istore (lv' := [(4, .int 0), (3, .int 0), (0, .ref mo), (1, .int n), (2, .int n2)]) hx hb dX12_doors_13 hl (by decide) rfl (fun ls hl => ?_)
    refine W.widen (k := 0) (n := 0) (Nat.le_of_ble_eq_true rfl) (Nat.le_of_ble_eq_true rfl) ?_
    have lp_4 : ∀ (N : Nat) (x4_4 : Int32) (x3_4 : Int32) (p4 : Nat → Int32) (H : Heap) (locs : List Loc) (ls : Array Slot), (0 ≤ x4_4.toInt ∧ x4_4.toInt ≤ 8) → (8 - x4_4.toInt).toNat < N → va_P G vwCl (WMs cy mo h v nm (va_up f 28 p4) g) H → va_D A (WMs cy mo h v nm (va_up f 28 p4) g) → va_S A s.heap H locs → lv_has ls 5 [(4, .int x4_4), (3, .int x3_4), (0, .ref mo), (1, .int n), (2, .int n2)] → W p l e (headSpec (.code yX12_doors cX12_doors 5 (some .int) :: TBg) ({ frames := 8, cells := 0, slots := 0, locals := 512 })).room s m ([.ref mo, .int n, .int n2] : List Value).toArray below meth c H locs 0 0 (MQ below (va_Qi (fun (r : Int32) (u : Nat → Int32) => True) (fun u t => Ex G A (WMs cy mo h v nm (va_up f 28 u) g) t) A) ([.ref mo, .int n, .int n2] : List Value).toArray s 0 0 A) (F0 m 15 ls []) := by
      intro N
      induction N with
      | zero => intro x4_4 x3_4 p4 H locs ls qf4_0 hm hP hD hS hl; exact absurd hm (Nat.not_lt_zero _)
      | succ N ih_4 =>
        intro x4_4 x3_4 p4 H locs ls qf4_0 hm hP hD hS hl
        have hf : MIf (va_up f 28 p4) := MIf.any (f := f) hf0 _
        have hR : RI v (va_up f 28 p4) := RI.up 28 (f := f) hR0 (by decide)
        have hL : WL v (va_up f 28 p4) := WL.upf 28 (f := f) hL0 (by decide)
        refine lv_iload hx hb dX12_doors_15 (lv_at hl 0 rfl) ?_
        refine lv_aload_n hx hb dX12_doors_17 rfl (lv_at hl 2 rfl) ?_
        refine mg_12 hx hb ht hown hK hP dX12_doors_18 ?_
        refine lv_aload_n hx hb dX12_doors_21 rfl (lv_at hl 2 rfl) ?_
        refine mg_29 hx hb ht hown hK hP dX12_doors_22 ?_
        have q_5 : 0 ≤ (v 29).toInt ∧ (v 29).toInt ≤ 1 := hv 29
        have q_6 : vp_in (v 29) 2 := vp_in_iff.mpr ⟨by omega, by omega⟩
        refine ml_12 hx hb hK hP q_6 dX12_doors_25 ?_
        refine lv_topi (fun v_7 ev_7 => ?_)
        have q_8 : 0 ≤ v_7.toInt ∧ v_7.toInt ≤ 8 := by rw [ev_7]; exact MIf.rd 12 hf q_6
        have q_9 : v_7.toInt = ((f 12) (Int32.toNatClampNeg (v 29))).toInt := (congrArg Int32.toInt ev_7).trans (congrArg (fun z : Nat → Int32 => (z (Int32.toNatClampNeg (v 29))).toInt) (show (va_up f 28 p4) 12 = (f 12) from rfl))
        refine lv_icmp_ge (tgt := 68) hx hb dX12_doors_26 (by decide) (fun c_10 => ?_) (fun c_10 => ?_)
        · have q_11 : v_7.toInt ≤ x4_4.toInt := (ow_le _ _).mp c_10
          refine lv_iload_n hx hb dX12_doors_68 rfl (lv_at hl 1 rfl) ?_
          refine W.widen (k := 0) (n := 0) (Nat.le_of_ble_eq_true rfl) (Nat.le_of_ble_eq_true rfl) ?_
          exact W.iret (v := x3_4) hx hb hr (fun t ht9 hW => ⟨⟨x3_4, p4, rfl, trivial, ⟨by rw [ht9]; exact hP, hD⟩⟩, hS.F ht9⟩) hS.2.2 dX12_doors_69
        · have q_12 : x4_4.toInt < v_7.toInt := by have := (not_congr (ow_le _ _)).mp c_10; omega
          refine lv_iload_n hx hb dX12_doors_29 rfl (lv_at hl 1 rfl) ?_
          refine lv_aload_n hx hb dX12_doors_30 rfl (lv_at hl 2 rfl) ?_
          refine lv_iload hx hb dX12_doors_31 (lv_at hl 0 rfl) ?_
          refine lv_aload_n hx hb dX12_doors_33 rfl (lv_at hl 2 rfl) ?_
          refine lv_iload_n hx hb dX12_doors_34 rfl (lv_at hl 3 rfl) ?_
          have hFc := fr_new hS hA
          refine va_calli (va_runV (As := [.int n]) (rest := [.int x4_4, .ref mo, .int x3_4]) ⟨hx, hb, hml, hown, ht⟩ (m_songOf l G cy _ mo h T v nm (va_up f 28 p4) g n  hv hf hR hL (by omega)) (cwV 1 ht (gv k_94 k_95 k_96 k_61 k_93) rfl rfl rfl (by decide +kernel) ⟨Nat.le_of_ble_eq_true rfl, Nat.le_of_ble_eq_true rfl⟩) ⟨En.blind, va_recv hK hP (ci := 12) (q0 := 0) rfl rfl, fun U hU hW => ⟨rfl, En.of hU hW hP hK hD hN⟩⟩ rfl rfl hl.1 rfl (lv_room (Nat.le_of_ble_eq_true rfl)) dX12_doors_35 ⟨Nat.le_of_ble_eq_true rfl, Nat.le_of_ble_eq_true rfl⟩) hS (fun q _ h => hFc q h) hFc (fun r_u_13 u_13 t9 H locs ht9 hvm hw hB hz1 hk1 hS => ?_)
          have hP := fr_keep hP hk1
          have wu_13 : (0 ≤ r_u_13.toInt ∧ r_u_13.toInt ≤ 27) ∧ r_u_13.toInt = 14 * (v 29).toInt + n.toInt := hw
          clear hFc hk1 hz1 hB hw
          refine lv_iload_n hx hb dX12_doors_38 rfl (lv_at hl 4 rfl) ?_
          refine lv_aload_n hx hb dX12_doors_39 rfl (lv_at hl 2 rfl) ?_
          refine mg_36 hx hb ht hown hK hP dX12_doors_40 ?_
          refine lv_iload hx hb dX12_doors_43 (lv_at hl 0 rfl) ?_
          have q_14 : vp_in x4_4 8 := vp_in_iff.mpr ⟨by omega, by omega⟩
          refine ml_36 hx hb hK hP q_14 dX12_doors_45 ?_
          refine lv_topi (fun v_15 ev_15 => ?_)
          have hFc := fr_free hD hS hA
          refine va_calli (va_runV (As := [.int x4_4, .int r_u_13, .int n2, .int v_15]) (rest := [.int x3_4]) ⟨hx, hb, hml, hown, ht⟩ (m_opens l G cy _ mo h T v nm (va_up f 28 p4) g x4_4 r_u_13 n2 v_15  hv hf hR hL (by omega) (by omega) (show x4_4.toInt < (f 12 (Int32.toNatClampNeg (v 29))).toInt from by omega)) (cwV 4 ht (gv k_145 k_146 k_147 k_61 k_144) rfl rfl rfl (by decide +kernel) ⟨Nat.le_of_ble_eq_true rfl, Nat.le_of_ble_eq_true rfl⟩) ⟨En.blind, va_recv hK hP (ci := 12) (q0 := 0) rfl rfl, fun U hU hW => ⟨rfl, En.of hU hW hP hK hD hN⟩⟩ rfl rfl hl.1 rfl (lv_room (Nat.le_of_ble_eq_true rfl)) dX12_doors_46 ⟨Nat.le_of_ble_eq_true rfl, Nat.le_of_ble_eq_true rfl⟩) hS (fun q _ h => hFc q h) hFc (fun r_u_16 u_16 t9 H locs ht9 hvm hw hB hz1 hk1 hS => ?_)
          obtain ⟨hP1, hD1⟩ := hB
          rw [ht9] at hP1
          have wu_16 := hw
          have hP : va_P G vwCl (WMs cy mo h v nm (va_up f 28 u_16) g) H := by rw [bx_uu] at hP1; exact hP1
          have hD : va_D A (WMs cy mo h v nm (va_up f 28 u_16) g) := by rw [bx_uu] at hD1; exact hD1.weaken (fun _ _ _ h => hFc _ h)
          have hf : MIf (va_up f 28 u_16) := MIf.any hf0 _
          have hR : RI v (va_up f 28 u_16) := RI.up 28 hR0 (by decide)
          have hL : WL v (va_up f 28 u_16) := WL.upf 28 hL0 (by decide)
          clear hFc hk1 hz1 hP1 hD1 hw
          refine lv_if_eq (tgt := 59) hx hb dX12_doors_49 (by decide) (fun c_17 => ?_) (fun c_17 => ?_)
          · have q_18 : r_u_16.toInt = (0 : Int32).toInt := (ow_eq _ _).mp c_17
            refine lv_iconst (v := 0) hx hb dX12_doors_59 (by decide) ?_
            refine lv_ior hx hb dX12_doors_60 ?_
            refine lv_topi (fun v_19 ev_19 => ?_)
            refine lv_istore_n (lv' := [(3, .int v_19), (4, .int x4_4), (0, .ref mo), (1, .int n), (2, .int n2)]) hx hb dX12_doors_61 rfl hl (by decide) rfl (fun ls hl => ?_)
            obtain ⟨v_20, ev_20⟩ : ∃ y : Int32, y = x4_4 + 1 := ⟨_, rfl⟩
            refine lv_iinc (v := v_20) (lv' := [(4, .int v_20), (3, .int v_19), (0, .ref mo), (1, .int n), (2, .int n2)]) hx hb dX12_doors_62 hl (k := 1) rfl (by rw [ev_20]; rfl) (by decide) rfl (fun ls hl => ?_)
            have q_21 : v_20.toInt = x4_4.toInt + 1 := by have := ow_add ev_20 (by omega) (by omega); omega
            refine lv_goto (tgt := 15) hx hb dX12_doors_65 (by decide) ?_
            refine W.widen (k := 0) (n := 0) (Nat.le_of_ble_eq_true rfl) (Nat.le_of_ble_eq_true rfl) ?_
            exact ih_4 v_20 v_19 u_16 _ _ _ (by omega) (by omega) hP hD hS (lv_sub hl [0, 1, 2, 3, 4] rfl)
          · have q_22 : ¬ r_u_16.toInt = (0 : Int32).toInt := by have := (not_congr (ow_eq _ _)).mp c_17; omega
            refine lv_iconst (v := 1) hx hb dX12_doors_52 (by decide) ?_
            refine lv_iload hx hb dX12_doors_53 (lv_at hl 0 rfl) ?_
            refine lv_ishl hx hb dX12_doors_55 ?_
            refine lv_topi (fun v_23 ev_23 => ?_)
            refine lv_goto (tgt := 60) hx hb dX12_doors_56 (by decide) ?_
            refine lv_ior hx hb dX12_doors_60 ?_
            refine lv_topi (fun v_24 ev_24 => ?_)
            refine lv_istore_n (lv' := [(3, .int v_24), (4, .int x4_4), (0, .ref mo), (1, .int n), (2, .int n2)]) hx hb dX12_doors_61 rfl hl (by decide) rfl (fun ls hl => ?_)
            obtain ⟨v_25, ev_25⟩ : ∃ y : Int32, y = x4_4 + 1 := ⟨_, rfl⟩
            refine lv_iinc (v := v_25) (lv' := [(4, .int v_25), (3, .int v_24), (0, .ref mo), (1, .int n), (2, .int n2)]) hx hb dX12_doors_62 hl (k := 1) rfl (by rw [ev_25]; rfl) (by decide) rfl (fun ls hl => ?_)
            have q_26 : v_25.toInt = x4_4.toInt + 1 := by have := ow_add ev_25 (by omega) (by omega); omega
            refine lv_goto (tgt := 15) hx hb dX12_doors_65 (by decide) ?_
            refine W.widen (k := 0) (n := 0) (Nat.le_of_ble_eq_true rfl) (Nat.le_of_ble_eq_true rfl) ?_
            exact ih_4 v_25 v_24 u_16 _ _ _ (by omega) (by omega) hP hD hS (lv_sub hl [0, 1, 2, 3, 4] rfl)
    exact lp_4 _ (0) (0) (f 28) _ _ _ (by omega) (Nat.lt_succ_self _) hP hD hS (lv_sub hl [0, 1, 2, 3, 4] rfl)
  · have q_27 : r_u_1.toInt = (0 : Int32).toInt := (ow_eq _ _).mp c_2
    refine lv_iconst (v := (-1)) hx hb dX12_doors_8 (by decide) ?_
    refine W.widen (k := 0) (n := 0) (Nat.le_of_ble_eq_true rfl) (Nat.le_of_ble_eq_true rfl) ?_
    exact W.iret (v := (-1)) hx hb hr (fun t ht9 hW => ⟨⟨(-1), (f 28), rfl, trivial, ⟨by rw [ht9]; exact hP, hD⟩⟩, hS.F ht9⟩) hS.2.2 dX12_doors_9
set_option maxHeartbeats 4000000 in
set_option maxRecDepth 100000 in
theorem m_asked (l : Launch) (G : va_G) (cy : Nat → ClassId) (sz : Nat) (mo : Nat) (h : Nat → Nat) (T : Int) (v : Nat → Int32) (nm : Int64) (f : Nat → Nat → Int32) (g : Nat → Nat → Int64) (n : Int32) (n2 : Int32) (n3 : Int32)  (hv : MIv T v) (hf : MIf f) (hR : RI v f) (hL : WL v f)  : Met l yX12_asked (.code yX12_asked cX12_asked 4 (some .int) :: TBg) ({ frames := 7, cells := 0, slots := 0, locals := 448 }) (va_Pc [.ref mo, .int n, .int n2, .int n3] (En G cy (WMs cy mo h v nm f g) sz)) (va_Qi (fun (r : Int32) (u : Nat → Int32) => True) (fun u t => Ex G (va_A (WMs cy mo h v nm f g) sz) (WMs cy mo h v nm (va_up f 28 u) g) t) (va_A (WMs cy mo h v nm f g) sz)) 0 0 (va_A (WMs cy mo h v nm f g) sz) := by
  refine Met.ofW (cc := cX12_asked) (maxL := 4) (ret := (some .int)) (by decide) rfl ?_
  intro p e s m args below meth c s₁ B hml hv9
  obtain ⟨rfl, hsz, hP, hK, hD0, hN⟩ := hv9
  have hx := B.exec
  have hb := B.bytes
  have hr := B.returns
  have hts := atoms_spec (ws := .code yX12_asked cX12_asked 4 (some .int) :: TBg) B.pre
  have ht : ∀ w ∈ TBg, w.before _ s = true := fun w h => hts w (List.mem_cons_of_mem _ h)
  have hown : s.vm.findClass RX12 = some m.cls := findClass_of_methodNamed B.named
  have hlocks := B.notSynchronized
  subst hsz
  have hD := hD0.self (sz := s.heap.size)
  generalize hAe : va_A (WMs cy mo h v nm f g) s.heap.size = A at hD ⊢
  have hA : ∀ q : Nat, s.heap.size ≤ q → A q := fun q h => by rw [← hAe]; exact Or.inr h
  have hS : va_S A s.heap s.heap [] := va_S.rf
  have hl := lv_entry ([.ref mo, .int n, .int n2, .int n3]) (n := 4) (Nat.le_of_ble_eq_true rfl)
  rw [lg_entry_eq]
  generalize (lg_sl ([.ref mo, .int n, .int n2, .int n3]) ++ List.replicate (4 - (lg_sl ([.ref mo, .int n, .int n2, .int n3])).length) Slot.unset).toArray = ls at hl ⊢
  have hl : lv_has ls 4 [(0, .ref mo), (1, .int n), (2, .int n2), (3, .int n3)] := hl
  have z0 : (-1000000 : Int32).toInt = -1000000 := by decide
  have z1 : (0 : Int32).toInt = 0 := by decide
  have hP : va_P G vwCl (WMs cy mo h v nm (va_up f 28 (f 28)) g) s.heap := by rw [va_up_id]; exact hP
  have hD : va_D A (WMs cy mo h v nm (va_up f 28 (f 28)) g) := by rw [va_up_id]; exact hD
  have hf0 := hf
  have hR0 := hR
  have hL0 := hL
  have hf : MIf (va_up f 28 (f 28)) := MIf.any hf _
  have hR : RI v (va_up f 28 (f 28)) := RI.up 28 hR (by decide)
  have hL : WL v (va_up f 28 (f 28)) := WL.upf 28 hL (by decide)
  refine lv_aload_n hx hb dX12_asked_0 rfl (lv_at hl 0 rfl) ?_
  refine lv_iload_n hx hb dX12_asked_1 rfl (lv_at hl 1 rfl) ?_
  have hFc := fr_new hS hA
  refine va_calli (va_runV (As := [.int n]) (rest := []) ⟨hx, hb, hml, hown, ht⟩ (m_isLock l G cy _ mo h T v nm (va_up f 28 (f 28)) g n  hv hf hR hL) (cwV 1 ht (gv k_118 k_119 k_120 k_61 k_117) rfl rfl rfl (by decide +kernel) ⟨Nat.le_of_ble_eq_true rfl, Nat.le_of_ble_eq_true rfl⟩) ⟨En.blind, va_recv hK hP (ci := 12) (q0 := 0) rfl rfl, fun U hU hW => ⟨rfl, En.of hU hW hP hK hD hN⟩⟩ rfl rfl hl.1 rfl (lv_room (Nat.le_of_ble_eq_true rfl)) dX12_asked_2 ⟨Nat.le_of_ble_eq_true rfl, Nat.le_of_ble_eq_true rfl⟩) hS (fun q _ h => hFc q h) hFc (fun r_u_1 u_1 t9 H locs ht9 hvm hw hB hz1 hk1 hS => ?_)
  have hP := fr_keep hP hk1
  have wu_1 : (r_u_1.toInt = 0 ∨ (r_u_1.toInt = 1 ∧ 0 ≤ n.toInt ∧ n.toInt ≤ 7)) ∧ (r_u_1.toInt = 0 ∨ n.toInt < (f 12 (Int32.toNatClampNeg (v 29))).toInt) := hw
  clear hFc hk1 hz1 hB hw
  refine lv_if_eq (tgt := 36) hx hb dX12_asked_5 (by decide) (fun c_2 => ?_) (fun c_2 => ?_)
  · have q_3 : r_u_1.toInt = (0 : Int32).toInt := (ow_eq _ _).mp c_2
    refine lv_ldcw (v := (-1000000)) hx hb hown (ht _ k_97) dX12_asked_36 ?_
    refine W.widen (k := 0) (n := 0) (Nat.le_of_ble_eq_true rfl) (Nat.le_of_ble_eq_true rfl) ?_
    exact W.iret (v := (-1000000)) hx hb hr (fun t ht9 hW => ⟨⟨(-1000000), (f 28), rfl, trivial, ⟨by rw [ht9]; exact hP, hD⟩⟩, hS.F ht9⟩) hS.2.2 dX12_asked_39
  · have q_4 : ¬ r_u_1.toInt = (0 : Int32).toInt := by have := (not_congr (ow_eq _ _)).mp c_2; omega
    refine lv_aload_n hx hb dX12_asked_8 rfl (lv_at hl 0 rfl) ?_
    refine lv_iload_n hx hb dX12_asked_9 rfl (lv_at hl 2 rfl) ?_
    have hFc := fr_new hS hA
    refine va_calli (va_runV (As := [.int n2]) (rest := []) ⟨hx, hb, hml, hown, ht⟩ (m_isTune l G cy _ mo h T v nm (va_up f 28 (f 28)) g n2  hv hf hR hL) (cwV 1 ht (gv k_90 k_91 k_92 k_61 k_89) rfl rfl rfl (by decide +kernel) ⟨Nat.le_of_ble_eq_true rfl, Nat.le_of_ble_eq_true rfl⟩) ⟨En.blind, va_recv hK hP (ci := 12) (q0 := 0) rfl rfl, fun U hU hW => ⟨rfl, En.of hU hW hP hK hD hN⟩⟩ rfl rfl hl.1 rfl (lv_room (Nat.le_of_ble_eq_true rfl)) dX12_asked_10 ⟨Nat.le_of_ble_eq_true rfl, Nat.le_of_ble_eq_true rfl⟩) hS (fun q _ h => hFc q h) hFc (fun r_u_5 u_5 t9 H locs ht9 hvm hw hB hz1 hk1 hS => ?_)
    have hP := fr_keep hP hk1
    have wu_5 := hw
    clear hFc hk1 hz1 hB hw
    refine lv_if_eq (tgt := 36) hx hb dX12_asked_13 (by decide) (fun c_6 => ?_) (fun c_6 => ?_)
    · have q_7 : r_u_5.toInt = (0 : Int32).toInt := (ow_eq _ _).mp c_6
      refine lv_ldcw (v := (-1000000)) hx hb hown (ht _ k_97) dX12_asked_36 ?_
      refine W.widen (k := 0) (n := 0) (Nat.le_of_ble_eq_true rfl) (Nat.le_of_ble_eq_true rfl) ?_
      exact W.iret (v := (-1000000)) hx hb hr (fun t ht9 hW => ⟨⟨(-1000000), (f 28), rfl, trivial, ⟨by rw [ht9]; exact hP, hD⟩⟩, hS.F ht9⟩) hS.2.2 dX12_asked_39
    · have q_8 : ¬ r_u_5.toInt = (0 : Int32).toInt := by have := (not_congr (ow_eq _ _)).mp c_6; omega
      refine lv_aload_n hx hb dX12_asked_16 rfl (lv_at hl 0 rfl) ?_
      refine lv_iload_n hx hb dX12_asked_17 rfl (lv_at hl 1 rfl) ?_
      refine lv_aload_n hx hb dX12_asked_18 rfl (lv_at hl 0 rfl) ?_
      refine lv_iload_n hx hb dX12_asked_19 rfl (lv_at hl 2 rfl) ?_
      have hFc := fr_new hS hA
      refine va_calli (va_runV (As := [.int n2]) (rest := [.int n, .ref mo]) ⟨hx, hb, hml, hown, ht⟩ (m_songOf l G cy _ mo h T v nm (va_up f 28 (f 28)) g n2  hv hf hR hL (by omega)) (cwV 1 ht (gv k_94 k_95 k_96 k_61 k_93) rfl rfl rfl (by decide +kernel) ⟨Nat.le_of_ble_eq_true rfl, Nat.le_of_ble_eq_true rfl⟩) ⟨En.blind, va_recv hK hP (ci := 12) (q0 := 0) rfl rfl, fun U hU hW => ⟨rfl, En.of hU hW hP hK hD hN⟩⟩ rfl rfl hl.1 rfl (lv_room (Nat.le_of_ble_eq_true rfl)) dX12_asked_20 ⟨Nat.le_of_ble_eq_true rfl, Nat.le_of_ble_eq_true rfl⟩) hS (fun q _ h => hFc q h) hFc (fun r_u_9 u_9 t9 H locs ht9 hvm hw hB hz1 hk1 hS => ?_)
      have hP := fr_keep hP hk1
      have wu_9 : (0 ≤ r_u_9.toInt ∧ r_u_9.toInt ≤ 27) ∧ r_u_9.toInt = 14 * (v 29).toInt + n2.toInt := hw
      clear hFc hk1 hz1 hB hw
      refine lv_iload_n hx hb dX12_asked_23 rfl (lv_at hl 3 rfl) ?_
      refine lv_aload_n hx hb dX12_asked_24 rfl (lv_at hl 0 rfl) ?_
      refine mg_36 hx hb ht hown hK hP dX12_asked_25 ?_
      refine lv_iload_n hx hb dX12_asked_28 rfl (lv_at hl 1 rfl) ?_
      have q_10 : vp_in n 8 := vp_in_iff.mpr ⟨by omega, by omega⟩
      refine ml_36 hx hb hK hP q_10 dX12_asked_29 ?_
      refine lv_topi (fun v_11 ev_11 => ?_)
      have hFc := fr_free hD hS hA
      refine va_calli (va_runV (As := [.int n, .int r_u_9, .int n3, .int v_11]) (rest := []) ⟨hx, hb, hml, hown, ht⟩ (m_comes l G cy _ mo h T v nm (va_up f 28 (f 28)) g n r_u_9 n3 v_11  hv hf hR hL (by omega) (by omega) (show n.toInt < (f 12 (Int32.toNatClampNeg (v 29))).toInt from by omega)) (cwV 4 ht (gv k_141 k_142 k_143 k_61 k_140) rfl rfl rfl (by decide +kernel) ⟨Nat.le_of_ble_eq_true rfl, Nat.le_of_ble_eq_true rfl⟩) ⟨En.blind, va_recv hK hP (ci := 12) (q0 := 0) rfl rfl, fun U hU hW => ⟨rfl, En.of hU hW hP hK hD hN⟩⟩ rfl rfl hl.1 rfl (lv_room (Nat.le_of_ble_eq_true rfl)) dX12_asked_30 ⟨Nat.le_of_ble_eq_true rfl, Nat.le_of_ble_eq_true rfl⟩) hS (fun q _ h => hFc q h) hFc (fun r_u_12 u_12 t9 H locs ht9 hvm hw hB hz1 hk1 hS => ?_)
      obtain ⟨hP1, hD1⟩ := hB
      rw [ht9] at hP1
      have wu_12 := hw
      have hP : va_P G vwCl (WMs cy mo h v nm (va_up f 28 u_12) g) H := by rw [bx_uu] at hP1; exact hP1
      have hD : va_D A (WMs cy mo h v nm (va_up f 28 u_12) g) := by rw [bx_uu] at hD1; exact hD1.weaken (fun _ _ _ h => hFc _ h)
      have hf : MIf (va_up f 28 u_12) := MIf.any hf0 _
      have hR : RI v (va_up f 28 u_12) := RI.up 28 hR0 (by decide)
      have hL : WL v (va_up f 28 u_12) := WL.upf 28 hL0 (by decide)
      clear hFc hk1 hz1 hP1 hD1 hw
      refine lv_goto (tgt := 39) hx hb dX12_asked_33 (by decide) ?_
      refine W.widen (k := 0) (n := 0) (Nat.le_of_ble_eq_true rfl) (Nat.le_of_ble_eq_true rfl) ?_
      exact W.iret (v := r_u_12) hx hb hr (fun t ht9 hW => ⟨⟨r_u_12, u_12, rfl, trivial, ⟨by rw [ht9]; exact hP, hD⟩⟩, hS.F ht9⟩) hS.2.2 dX12_asked_39
set_option maxHeartbeats 4000000 in
set_option maxRecDepth 100000 in
theorem m_least (l : Launch) (G : va_G) (cy : Nat → ClassId) (sz : Nat) (mo : Nat) (h : Nat → Nat) (T : Int) (v : Nat → Int32) (nm : Int64) (f : Nat → Nat → Int32) (g : Nat → Nat → Int64) (n : Int32) (n2 : Int32)  (hv : MIv T v) (hf : MIf f) (hR : RI v f) (hL : WL v f)  : Met l yX12_least (.code yX12_least cX12_least 5 (some .int) :: TBg) ({ frames := 8, cells := 0, slots := 0, locals := 512 }) (va_Pc [.ref mo, .int n, .int n2] (En G cy (WMs cy mo h v nm f g) sz)) (va_Qi (fun (r : Int32) (u : Nat → Int32) => (-1 ≤ r.toInt ∧ r.toInt ≤ 13)) (fun u t => Ex G (va_A (WMs cy mo h v nm f g) sz) (WMs cy mo h v nm (va_up f 28 u) g) t) (va_A (WMs cy mo h v nm f g) sz)) 0 0 (va_A (WMs cy mo h v nm f g) sz) := by
  refine Met.ofW (cc := cX12_least) (maxL := 5) (ret := (some .int)) (by decide) rfl ?_
  intro p e s m args below meth c s₁ B hml hv9
  obtain ⟨rfl, hsz, hP, hK, hD0, hN⟩ := hv9
  have hx := B.exec
  have hb := B.bytes
  have hr := B.returns
  have hts := atoms_spec (ws := .code yX12_least cX12_least 5 (some .int) :: TBg) B.pre
  have ht : ∀ w ∈ TBg, w.before _ s = true := fun w h => hts w (List.mem_cons_of_mem _ h)
  have hown : s.vm.findClass RX12 = some m.cls := findClass_of_methodNamed B.named
  have hlocks := B.notSynchronized
  subst hsz
  have hD := hD0.self (sz := s.heap.size)
  generalize hAe : va_A (WMs cy mo h v nm f g) s.heap.size = A at hD ⊢
  have hA : ∀ q : Nat, s.heap.size ≤ q → A q := fun q h => by rw [← hAe]; exact Or.inr h
  have hS : va_S A s.heap s.heap [] := va_S.rf
  have hl := lv_entry ([.ref mo, .int n, .int n2]) (n := 5) (Nat.le_of_ble_eq_true rfl)
  rw [lg_entry_eq]
  generalize (lg_sl ([.ref mo, .int n, .int n2]) ++ List.replicate (5 - (lg_sl ([.ref mo, .int n, .int n2])).length) Slot.unset).toArray = ls at hl ⊢
  have hl : lv_has ls 5 [(0, .ref mo), (1, .int n), (2, .int n2)] := hl
  have z0 : (-1 : Int32).toInt = -1 := by decide
  have z1 : (0 : Int32).toInt = 0 := by decide
  have z2 : (1 : Int32).toInt = 1 := by decide
  have hP : va_P G vwCl (WMs cy mo h v nm (va_up f 28 (f 28)) g) s.heap := by rw [va_up_id]; exact hP
  have hD : va_D A (WMs cy mo h v nm (va_up f 28 (f 28)) g) := by rw [va_up_id]; exact hD
  have hf0 := hf
  have hR0 := hR
  have hL0 := hL
  have hf : MIf (va_up f 28 (f 28)) := MIf.any hf _
  have hR : RI v (va_up f 28 (f 28)) := RI.up 28 hR (by decide)
  have hL : WL v (va_up f 28 (f 28)) := WL.upf 28 hL (by decide)
  refine lv_aload_n hx hb dX12_least_0 rfl (lv_at hl 0 rfl) ?_
  refine lv_iload_n hx hb dX12_least_1 rfl (lv_at hl 1 rfl) ?_
  have hFc := fr_new hS hA
  refine va_calli (va_runV (As := [.int n]) (rest := []) ⟨hx, hb, hml, hown, ht⟩ (m_isLock l G cy _ mo h T v nm (va_up f 28 (f 28)) g n  hv hf hR hL) (cwV 1 ht (gv k_118 k_119 k_120 k_61 k_117) rfl rfl rfl (by decide +kernel) ⟨Nat.le_of_ble_eq_true rfl, Nat.le_of_ble_eq_true rfl⟩) ⟨En.blind, va_recv hK hP (ci := 12) (q0 := 0) rfl rfl, fun U hU hW => ⟨rfl, En.of hU hW hP hK hD hN⟩⟩ rfl rfl hl.1 rfl (lv_room (Nat.le_of_ble_eq_true rfl)) dX12_least_2 ⟨Nat.le_of_ble_eq_true rfl, Nat.le_of_ble_eq_true rfl⟩) hS (fun q _ h => hFc q h) hFc (fun r_u_1 u_1 t9 H locs ht9 hvm hw hB hz1 hk1 hS => ?_)
  have hP := fr_keep hP hk1
  have wu_1 : (r_u_1.toInt = 0 ∨ (r_u_1.toInt = 1 ∧ 0 ≤ n.toInt ∧ n.toInt ≤ 7)) ∧ (r_u_1.toInt = 0 ∨ n.toInt < (f 12 (Int32.toNatClampNeg (v 29))).toInt) := hw
  clear hFc hk1 hz1 hB hw
  refine lv_if_ne (tgt := 10) hx hb dX12_least_5 (by decide) (fun c_2 => ?_) (fun c_2 => ?_)
  · have q_3 : ¬ r_u_1.toInt = (0 : Int32).toInt := by have := (not_congr (ow_eq _ _)).mp c_2; omega
    refine lv_iconst (v := (-1)) hx hb dX12_least_10 (by decide) ?_
    refine lv_istore_n (lv' := [(3, .int (-1)), (0, .ref mo), (1, .int n), (2, .int n2)]) hx hb dX12_least_11 rfl hl (by decide) rfl (fun ls hl => ?_)
    refine lv_iconst (v := 0) hx hb dX12_least_12 (by decide) ?_
    refine lv_istore (lv' := [(4, .int 0), (3, .int (-1)), (0, .ref mo), (1, .int n), (2, .int n2)]) hx hb dX12_least_13 hl (by decide) rfl (fun ls hl => ?_)
    refine W.widen (k := 0) (n := 0) (Nat.le_of_ble_eq_true rfl) (Nat.le_of_ble_eq_true rfl) ?_
    have lp_4 : ∀ (N : Nat) (x4_4 : Int32) (x3_4 : Int32) (p4 : Nat → Int32) (H : Heap) (locs : List Loc) (ls : Array Slot), (0 ≤ x4_4.toInt ∧ x4_4.toInt ≤ 14) → (-1 ≤ x3_4.toInt ∧ x3_4.toInt ≤ 13) → (14 - x4_4.toInt).toNat < N → va_P G vwCl (WMs cy mo h v nm (va_up f 28 p4) g) H → va_D A (WMs cy mo h v nm (va_up f 28 p4) g) → va_S A s.heap H locs → lv_has ls 5 [(4, .int x4_4), (3, .int x3_4), (0, .ref mo), (1, .int n), (2, .int n2)] → W p l e (headSpec (.code yX12_least cX12_least 5 (some .int) :: TBg) ({ frames := 8, cells := 0, slots := 0, locals := 512 })).room s m ([.ref mo, .int n, .int n2] : List Value).toArray below meth c H locs 0 0 (MQ below (va_Qi (fun (r : Int32) (u : Nat → Int32) => (-1 ≤ r.toInt ∧ r.toInt ≤ 13)) (fun u t => Ex G A (WMs cy mo h v nm (va_up f 28 u) g) t) A) ([.ref mo, .int n, .int n2] : List Value).toArray s 0 0 A) (F0 m 15 ls []) := by
      intro N
      induction N with
      | zero => intro x4_4 x3_4 p4 H locs ls qf4_0 qf4_1 hm hP hD hS hl; exact absurd hm (Nat.not_lt_zero _)
      | succ N ih_4 =>
        intro x4_4 x3_4 p4 H locs ls qf4_0 qf4_1 hm hP hD hS hl
        have hf : MIf (va_up f 28 p4) := MIf.any (f := f) hf0 _
        have hR : RI v (va_up f 28 p4) := RI.up 28 (f := f) hR0 (by decide)
        have hL : WL v (va_up f 28 p4) := WL.upf 28 (f := f) hL0 (by decide)
        refine lv_iload hx hb dX12_least_15 (lv_at hl 0 rfl) ?_
        refine lv_aload_n hx hb dX12_least_17 rfl (lv_at hl 2 rfl) ?_
        refine mg_11 hx hb ht hown hK hP dX12_least_18 ?_
        refine lv_aload_n hx hb dX12_least_21 rfl (lv_at hl 2 rfl) ?_
        refine mg_29 hx hb ht hown hK hP dX12_least_22 ?_
        have q_5 : 0 ≤ (v 29).toInt ∧ (v 29).toInt ≤ 1 := hv 29
        have q_6 : vp_in (v 29) 2 := vp_in_iff.mpr ⟨by omega, by omega⟩
        refine ml_11 hx hb hK hP q_6 dX12_least_25 ?_
        refine lv_topi (fun v_7 ev_7 => ?_)
        have q_8 : 0 ≤ v_7.toInt ∧ v_7.toInt ≤ 14 := by rw [ev_7]; exact MIf.rd 11 hf q_6
        have q_9 : v_7.toInt = ((f 11) (Int32.toNatClampNeg (v 29))).toInt := (congrArg Int32.toInt ev_7).trans (congrArg (fun z : Nat → Int32 => (z (Int32.toNatClampNeg (v 29))).toInt) (show (va_up f 28 p4) 11 = (f 11) from rfl))
        refine lv_icmp_ge (tgt := 85) hx hb dX12_least_26 (by decide) (fun c_10 => ?_) (fun c_10 => ?_)
        · have q_11 : v_7.toInt ≤ x4_4.toInt := (ow_le _ _).mp c_10
          refine lv_iload_n hx hb dX12_least_85 rfl (lv_at hl 1 rfl) ?_
          refine W.widen (k := 0) (n := 0) (Nat.le_of_ble_eq_true rfl) (Nat.le_of_ble_eq_true rfl) ?_
          exact W.iret (v := x3_4) hx hb hr (fun t ht9 hW => ⟨⟨x3_4, p4, rfl, (by omega), ⟨by rw [ht9]; exact hP, hD⟩⟩, hS.F ht9⟩) hS.2.2 dX12_least_86
        · have q_12 : x4_4.toInt < v_7.toInt := by have := (not_congr (ow_le _ _)).mp c_10; omega
          refine lv_aload_n hx hb dX12_least_29 rfl (lv_at hl 2 rfl) ?_
          refine lv_iload_n hx hb dX12_least_30 rfl (lv_at hl 3 rfl) ?_
          refine lv_aload_n hx hb dX12_least_31 rfl (lv_at hl 2 rfl) ?_
          refine lv_iload hx hb dX12_least_32 (lv_at hl 0 rfl) ?_
          have hFc := fr_new hS hA
          refine va_calli (va_runV (As := [.int x4_4]) (rest := [.int n, .ref mo]) ⟨hx, hb, hml, hown, ht⟩ (m_songOf l G cy _ mo h T v nm (va_up f 28 p4) g x4_4  hv hf hR hL (by omega)) (cwV 1 ht (gv k_94 k_95 k_96 k_61 k_93) rfl rfl rfl (by decide +kernel) ⟨Nat.le_of_ble_eq_true rfl, Nat.le_of_ble_eq_true rfl⟩) ⟨En.blind, va_recv hK hP (ci := 12) (q0 := 0) rfl rfl, fun U hU hW => ⟨rfl, En.of hU hW hP hK hD hN⟩⟩ rfl rfl hl.1 rfl (lv_room (Nat.le_of_ble_eq_true rfl)) dX12_least_34 ⟨Nat.le_of_ble_eq_true rfl, Nat.le_of_ble_eq_true rfl⟩) hS (fun q _ h => hFc q h) hFc (fun r_u_13 u_13 t9 H locs ht9 hvm hw hB hz1 hk1 hS => ?_)
          have hP := fr_keep hP hk1
          have wu_13 : (0 ≤ r_u_13.toInt ∧ r_u_13.toInt ≤ 27) ∧ r_u_13.toInt = 14 * (v 29).toInt + x4_4.toInt := hw
          clear hFc hk1 hz1 hB hw
          refine lv_iload_n hx hb dX12_least_37 rfl (lv_at hl 4 rfl) ?_
          refine lv_aload_n hx hb dX12_least_38 rfl (lv_at hl 2 rfl) ?_
          refine mg_36 hx hb ht hown hK hP dX12_least_39 ?_
          refine lv_iload_n hx hb dX12_least_42 rfl (lv_at hl 3 rfl) ?_
          have q_14 : vp_in n 8 := vp_in_iff.mpr ⟨by omega, by omega⟩
          refine ml_36 hx hb hK hP q_14 dX12_least_43 ?_
          refine lv_topi (fun v_15 ev_15 => ?_)
          have hFc := fr_free hD hS hA
          refine va_calli (va_runV (As := [.int n, .int r_u_13, .int n2, .int v_15]) (rest := []) ⟨hx, hb, hml, hown, ht⟩ (m_opens l G cy _ mo h T v nm (va_up f 28 p4) g n r_u_13 n2 v_15  hv hf hR hL (by omega) (by omega) (show n.toInt < (f 12 (Int32.toNatClampNeg (v 29))).toInt from by omega)) (cwV 4 ht (gv k_145 k_146 k_147 k_61 k_144) rfl rfl rfl (by decide +kernel) ⟨Nat.le_of_ble_eq_true rfl, Nat.le_of_ble_eq_true rfl⟩) ⟨En.blind, va_recv hK hP (ci := 12) (q0 := 0) rfl rfl, fun U hU hW => ⟨rfl, En.of hU hW hP hK hD hN⟩⟩ rfl rfl hl.1 rfl (lv_room (Nat.le_of_ble_eq_true rfl)) dX12_least_44 ⟨Nat.le_of_ble_eq_true rfl, Nat.le_of_ble_eq_true rfl⟩) hS (fun q _ h => hFc q h) hFc (fun r_u_16 u_16 t9 H locs ht9 hvm hw hB hz1 hk1 hS => ?_)
          obtain ⟨hP1, hD1⟩ := hB
          rw [ht9] at hP1
          have wu_16 := hw
          have hP : va_P G vwCl (WMs cy mo h v nm (va_up f 28 u_16) g) H := by rw [bx_uu] at hP1; exact hP1
          have hD : va_D A (WMs cy mo h v nm (va_up f 28 u_16) g) := by rw [bx_uu] at hD1; exact hD1.weaken (fun _ _ _ h => hFc _ h)
          have hf : MIf (va_up f 28 u_16) := MIf.any hf0 _
          have hR : RI v (va_up f 28 u_16) := RI.up 28 hR0 (by decide)
          have hL : WL v (va_up f 28 u_16) := WL.upf 28 hL0 (by decide)
          clear hFc hk1 hz1 hP1 hD1 hw
          refine lv_if_eq (tgt := 79) hx hb dX12_least_47 (by decide) (fun c_17 => ?_) (fun c_17 => ?_)
          · have q_18 : r_u_16.toInt = (0 : Int32).toInt := (ow_eq _ _).mp c_17
            obtain ⟨v_19, ev_19⟩ : ∃ y : Int32, y = x4_4 + 1 := ⟨_, rfl⟩
            refine lv_iinc (v := v_19) (lv' := [(4, .int v_19), (3, .int x3_4), (0, .ref mo), (1, .int n), (2, .int n2)]) hx hb dX12_least_79 hl (k := 0) rfl (by rw [ev_19]; rfl) (by decide) rfl (fun ls hl => ?_)
            have q_20 : v_19.toInt = x4_4.toInt + 1 := by have := ow_add ev_19 (by omega) (by omega); omega
            refine lv_goto (tgt := 15) hx hb dX12_least_82 (by decide) ?_
            refine W.widen (k := 0) (n := 0) (Nat.le_of_ble_eq_true rfl) (Nat.le_of_ble_eq_true rfl) ?_
            exact ih_4 v_19 x3_4 u_16 _ _ _ (by omega) (by omega) (by omega) hP hD hS (lv_sub hl [0, 1, 2, 3, 4] rfl)
          · have q_21 : ¬ r_u_16.toInt = (0 : Int32).toInt := by have := (not_congr (ow_eq _ _)).mp c_17; omega
            refine lv_iload_n hx hb dX12_least_50 rfl (lv_at hl 1 rfl) ?_
            refine lv_if_lt (tgt := 76) hx hb dX12_least_51 (by decide) (fun c_22 => ?_) (fun c_22 => ?_)
            · have q_23 : x3_4.toInt < (0 : Int32).toInt := (ow_lt _ _).mp c_22
              refine lv_iload hx hb dX12_least_76 (lv_at hl 0 rfl) ?_
              refine lv_istore_n (lv' := [(3, .int x4_4), (4, .int x4_4), (0, .ref mo), (1, .int n), (2, .int n2)]) hx hb dX12_least_78 rfl hl (by decide) rfl (fun ls hl => ?_)
              obtain ⟨v_24, ev_24⟩ : ∃ y : Int32, y = x4_4 + 1 := ⟨_, rfl⟩
              refine lv_iinc (v := v_24) (lv' := [(4, .int v_24), (3, .int x4_4), (0, .ref mo), (1, .int n), (2, .int n2)]) hx hb dX12_least_79 hl (k := 1) rfl (by rw [ev_24]; rfl) (by decide) rfl (fun ls hl => ?_)
              have q_25 : v_24.toInt = x4_4.toInt + 1 := by have := ow_add ev_24 (by omega) (by omega); omega
              refine lv_goto (tgt := 15) hx hb dX12_least_82 (by decide) ?_
              refine W.widen (k := 0) (n := 0) (Nat.le_of_ble_eq_true rfl) (Nat.le_of_ble_eq_true rfl) ?_
              exact ih_4 v_24 x4_4 u_16 _ _ _ (by omega) (by omega) (by omega) hP hD hS (lv_sub hl [0, 1, 2, 3, 4] rfl)
            · have q_26 : (0 : Int32).toInt ≤ x3_4.toInt := by have := (not_congr (ow_lt _ _)).mp c_22; omega
              refine lv_aload_n hx hb dX12_least_54 rfl (lv_at hl 2 rfl) ?_
              refine lv_aload_n hx hb dX12_least_55 rfl (lv_at hl 2 rfl) ?_
              refine lv_iload hx hb dX12_least_56 (lv_at hl 0 rfl) ?_
              have hFc := fr_new hS hA
              refine va_calli (va_runV (As := [.int x4_4]) (rest := [.ref mo]) ⟨hx, hb, hml, hown, ht⟩ (m_songOf l G cy _ mo h T v nm (va_up f 28 u_16) g x4_4  hv hf hR hL (by omega)) (cwV 1 ht (gv k_94 k_95 k_96 k_61 k_93) rfl rfl rfl (by decide +kernel) ⟨Nat.le_of_ble_eq_true rfl, Nat.le_of_ble_eq_true rfl⟩) ⟨En.blind, va_recv hK hP (ci := 12) (q0 := 0) rfl rfl, fun U hU hW => ⟨rfl, En.of hU hW hP hK hD hN⟩⟩ rfl rfl hl.1 rfl (lv_room (Nat.le_of_ble_eq_true rfl)) dX12_least_58 ⟨Nat.le_of_ble_eq_true rfl, Nat.le_of_ble_eq_true rfl⟩) hS (fun q _ h => hFc q h) hFc (fun r_u_27 u_27 t9 H locs ht9 hvm hw hB hz1 hk1 hS => ?_)
              have hP := fr_keep hP hk1
              have wu_27 : (0 ≤ r_u_27.toInt ∧ r_u_27.toInt ≤ 27) ∧ r_u_27.toInt = 14 * (v 29).toInt + x4_4.toInt := hw
              clear hFc hk1 hz1 hB hw
              have hFc := fr_new hS hA
              refine va_calli (va_runV (As := [.int r_u_27]) (rest := []) ⟨hx, hb, hml, hown, ht⟩ (m_many27 l G cy _ mo h T v nm (va_up f 28 u_16) g r_u_27  hv hf hR hL (by omega)) (cwV 1 ht (gv k_63 k_64 k_65 k_61 k_62) rfl rfl rfl (by decide +kernel) ⟨Nat.le_of_ble_eq_true rfl, Nat.le_of_ble_eq_true rfl⟩) ⟨En.blind, va_recv hK hP (ci := 12) (q0 := 0) rfl rfl, fun U hU hW => ⟨rfl, En.of hU hW hP hK hD hN⟩⟩ rfl rfl hl.1 rfl (lv_room (Nat.le_of_ble_eq_true rfl)) dX12_least_61 ⟨Nat.le_of_ble_eq_true rfl, Nat.le_of_ble_eq_true rfl⟩) hS (fun q _ h => hFc q h) hFc (fun r_u_28 u_28 t9 H locs ht9 hvm hw hB hz1 hk1 hS => ?_)
              have hP := fr_keep hP hk1
              have wu_28 : (0 ≤ r_u_28.toInt ∧ r_u_28.toInt ≤ 12) ∧ r_u_28.toInt = (f 15 (Int32.toNatClampNeg r_u_27)).toInt := hw
              clear hFc hk1 hz1 hB hw
              refine lv_aload_n hx hb dX12_least_64 rfl (lv_at hl 2 rfl) ?_
              refine lv_aload_n hx hb dX12_least_65 rfl (lv_at hl 2 rfl) ?_
              refine lv_iload_n hx hb dX12_least_66 rfl (lv_at hl 1 rfl) ?_
              have hFc := fr_new hS hA
              refine va_calli (va_runV (As := [.int x3_4]) (rest := [.ref mo, .int r_u_28]) ⟨hx, hb, hml, hown, ht⟩ (m_songOf l G cy _ mo h T v nm (va_up f 28 u_16) g x3_4  hv hf hR hL (by omega)) (cwV 1 ht (gv k_94 k_95 k_96 k_61 k_93) rfl rfl rfl (by decide +kernel) ⟨Nat.le_of_ble_eq_true rfl, Nat.le_of_ble_eq_true rfl⟩) ⟨En.blind, va_recv hK hP (ci := 12) (q0 := 0) rfl rfl, fun U hU hW => ⟨rfl, En.of hU hW hP hK hD hN⟩⟩ rfl rfl hl.1 rfl (lv_room (Nat.le_of_ble_eq_true rfl)) dX12_least_67 ⟨Nat.le_of_ble_eq_true rfl, Nat.le_of_ble_eq_true rfl⟩) hS (fun q _ h => hFc q h) hFc (fun r_u_29 u_29 t9 H locs ht9 hvm hw hB hz1 hk1 hS => ?_)
              have hP := fr_keep hP hk1
              have wu_29 : (0 ≤ r_u_29.toInt ∧ r_u_29.toInt ≤ 27) ∧ r_u_29.toInt = 14 * (v 29).toInt + x3_4.toInt := hw
              clear hFc hk1 hz1 hB hw
              have hFc := fr_new hS hA
              refine va_calli (va_runV (As := [.int r_u_29]) (rest := [.int r_u_28]) ⟨hx, hb, hml, hown, ht⟩ (m_many27 l G cy _ mo h T v nm (va_up f 28 u_16) g r_u_29  hv hf hR hL (by omega)) (cwV 1 ht (gv k_63 k_64 k_65 k_61 k_62) rfl rfl rfl (by decide +kernel) ⟨Nat.le_of_ble_eq_true rfl, Nat.le_of_ble_eq_true rfl⟩) ⟨En.blind, va_recv hK hP (ci := 12) (q0 := 0) rfl rfl, fun U hU hW => ⟨rfl, En.of hU hW hP hK hD hN⟩⟩ rfl rfl hl.1 rfl (lv_room (Nat.le_of_ble_eq_true rfl)) dX12_least_70 ⟨Nat.le_of_ble_eq_true rfl, Nat.le_of_ble_eq_true rfl⟩) hS (fun q _ h => hFc q h) hFc (fun r_u_30 u_30 t9 H locs ht9 hvm hw hB hz1 hk1 hS => ?_)
              have hP := fr_keep hP hk1
              have wu_30 : (0 ≤ r_u_30.toInt ∧ r_u_30.toInt ≤ 12) ∧ r_u_30.toInt = (f 15 (Int32.toNatClampNeg r_u_29)).toInt := hw
              clear hFc hk1 hz1 hB hw
              refine lv_icmp_ge (tgt := 79) hx hb dX12_least_73 (by decide) (fun c_31 => ?_) (fun c_31 => ?_)
              · have q_32 : r_u_30.toInt ≤ r_u_28.toInt := (ow_le _ _).mp c_31
                obtain ⟨v_33, ev_33⟩ : ∃ y : Int32, y = x4_4 + 1 := ⟨_, rfl⟩
                refine lv_iinc (v := v_33) (lv' := [(4, .int v_33), (3, .int x3_4), (0, .ref mo), (1, .int n), (2, .int n2)]) hx hb dX12_least_79 hl (k := 0) rfl (by rw [ev_33]; rfl) (by decide) rfl (fun ls hl => ?_)
                have q_34 : v_33.toInt = x4_4.toInt + 1 := by have := ow_add ev_33 (by omega) (by omega); omega
                refine lv_goto (tgt := 15) hx hb dX12_least_82 (by decide) ?_
                refine W.widen (k := 0) (n := 0) (Nat.le_of_ble_eq_true rfl) (Nat.le_of_ble_eq_true rfl) ?_
                exact ih_4 v_33 x3_4 u_16 _ _ _ (by omega) (by omega) (by omega) hP hD hS (lv_sub hl [0, 1, 2, 3, 4] rfl)
              · have q_35 : r_u_28.toInt < r_u_30.toInt := by have := (not_congr (ow_le _ _)).mp c_31; omega
                refine lv_iload hx hb dX12_least_76 (lv_at hl 0 rfl) ?_
                refine lv_istore_n (lv' := [(3, .int x4_4), (4, .int x4_4), (0, .ref mo), (1, .int n), (2, .int n2)]) hx hb dX12_least_78 rfl hl (by decide) rfl (fun ls hl => ?_)
                obtain ⟨v_36, ev_36⟩ : ∃ y : Int32, y = x4_4 + 1 := ⟨_, rfl⟩
                refine lv_iinc (v := v_36) (lv' := [(4, .int v_36), (3, .int x4_4), (0, .ref mo), (1, .int n), (2, .int n2)]) hx hb dX12_least_79 hl (k := 1) rfl (by rw [ev_36]; rfl) (by decide) rfl (fun ls hl => ?_)
                have q_37 : v_36.toInt = x4_4.toInt + 1 := by have := ow_add ev_36 (by omega) (by omega); omega
                refine lv_goto (tgt := 15) hx hb dX12_least_82 (by decide) ?_
                refine W.widen (k := 0) (n := 0) (Nat.le_of_ble_eq_true rfl) (Nat.le_of_ble_eq_true rfl) ?_
                exact ih_4 v_36 x4_4 u_16 _ _ _ (by omega) (by omega) (by omega) hP hD hS (lv_sub hl [0, 1, 2, 3, 4] rfl)
    exact lp_4 _ (0) ((-1)) (f 28) _ _ _ (by omega) (by omega) (Nat.lt_succ_self _) hP hD hS (lv_sub hl [0, 1, 2, 3, 4] rfl)
  · have q_38 : r_u_1.toInt = (0 : Int32).toInt := (ow_eq _ _).mp c_2
    refine lv_iconst (v := (-1)) hx hb dX12_least_8 (by decide) ?_
    refine W.widen (k := 0) (n := 0) (Nat.le_of_ble_eq_true rfl) (Nat.le_of_ble_eq_true rfl) ?_
    exact W.iret (v := (-1)) hx hb hr (fun t ht9 hW => ⟨⟨(-1), (f 28), rfl, (by omega), ⟨by rw [ht9]; exact hP, hD⟩⟩, hS.F ht9⟩) hS.2.2 dX12_least_9
set_option maxHeartbeats 4000000 in
set_option maxRecDepth 100000 in
theorem m_left (l : Launch) (G : va_G) (cy : Nat → ClassId) (sz : Nat) (mo : Nat) (h : Nat → Nat) (T : Int) (v : Nat → Int32) (nm : Int64) (f : Nat → Nat → Int32) (g : Nat → Nat → Int64) (n : Int32)  (hv : MIv T v) (hf : MIf f) (hR : RI v f) (hL : WL v f)  : Met l yX12_left (.code yX12_left cX12_left 6 (some .int) :: TBg) ({ frames := 8, cells := 0, slots := 0, locals := 512 }) (va_Pc [.ref mo, .int n] (En G cy (WMs cy mo h v nm f g) sz)) (va_Qi (fun (r : Int32) (u : Nat → Int32) => True) (fun u t => Ex G (va_A (WMs cy mo h v nm f g) sz) (WMs cy mo h v nm (va_up f 28 u) g) t) (va_A (WMs cy mo h v nm f g) sz)) 0 0 (va_A (WMs cy mo h v nm f g) sz) := by
  refine Met.ofW (cc := cX12_left) (maxL := 6) (ret := (some .int)) (by decide) rfl ?_
  intro p e s m args below meth c s₁ B hml hv9
  obtain ⟨rfl, hsz, hP, hK, hD0, hN⟩ := hv9
  have hx := B.exec
  have hb := B.bytes
  have hr := B.returns
  have hts := atoms_spec (ws := .code yX12_left cX12_left 6 (some .int) :: TBg) B.pre
  have ht : ∀ w ∈ TBg, w.before _ s = true := fun w h => hts w (List.mem_cons_of_mem _ h)
  have hown : s.vm.findClass RX12 = some m.cls := findClass_of_methodNamed B.named
  have hlocks := B.notSynchronized
  subst hsz
  have hD := hD0.self (sz := s.heap.size)
  generalize hAe : va_A (WMs cy mo h v nm f g) s.heap.size = A at hD ⊢
  have hA : ∀ q : Nat, s.heap.size ≤ q → A q := fun q h => by rw [← hAe]; exact Or.inr h
  have hS : va_S A s.heap s.heap [] := va_S.rf
  have hl := lv_entry ([.ref mo, .int n]) (n := 6) (Nat.le_of_ble_eq_true rfl)
  rw [lg_entry_eq]
  generalize (lg_sl ([.ref mo, .int n]) ++ List.replicate (6 - (lg_sl ([.ref mo, .int n])).length) Slot.unset).toArray = ls at hl ⊢
  have hl : lv_has ls 6 [(0, .ref mo), (1, .int n)] := hl
  have z0 : (0 : Int32).toInt = 0 := by decide
  have z1 : (1 : Int32).toInt = 1 := by decide
  have hP : va_P G vwCl (WMs cy mo h v nm (va_up f 28 (f 28)) g) s.heap := by rw [va_up_id]; exact hP
  have hD : va_D A (WMs cy mo h v nm (va_up f 28 (f 28)) g) := by rw [va_up_id]; exact hD
  have hf0 := hf
  have hR0 := hR
  have hL0 := hL
  have hf : MIf (va_up f 28 (f 28)) := MIf.any hf _
  have hR : RI v (va_up f 28 (f 28)) := RI.up 28 hR (by decide)
  have hL : WL v (va_up f 28 (f 28)) := WL.upf 28 hL (by decide)
  refine lv_iconst (v := 0) hx hb dX12_left_0 (by decide) ?_
  refine lv_istore_n (lv' := [(2, .int 0), (0, .ref mo), (1, .int n)]) hx hb dX12_left_1 rfl hl (by decide) rfl (fun ls hl => ?_)
  refine lv_iconst (v := 0) hx hb dX12_left_2 (by decide) ?_
  refine lv_istore_n (lv' := [(3, .int 0), (2, .int 0), (0, .ref mo), (1, .int n)]) hx hb dX12_left_3 rfl hl (by decide) rfl (fun ls hl => ?_)
  refine W.widen (k := 0) (n := 0) (Nat.le_of_ble_eq_true rfl) (Nat.le_of_ble_eq_true rfl) ?_
  have lp_1 : ∀ (N : Nat) (x3_1 : Int32) (x2_1 : Int32) (p1 : Nat → Int32) (H : Heap) (locs : List Loc) (ls : Array Slot), (0 ≤ x3_1.toInt ∧ x3_1.toInt ≤ 14) → (14 - x3_1.toInt).toNat < N → va_P G vwCl (WMs cy mo h v nm (va_up f 28 p1) g) H → va_D A (WMs cy mo h v nm (va_up f 28 p1) g) → va_S A s.heap H locs → lv_has ls 6 [(3, .int x3_1), (2, .int x2_1), (0, .ref mo), (1, .int n)] → W p l e (headSpec (.code yX12_left cX12_left 6 (some .int) :: TBg) ({ frames := 8, cells := 0, slots := 0, locals := 512 })).room s m ([.ref mo, .int n] : List Value).toArray below meth c H locs 0 0 (MQ below (va_Qi (fun (r : Int32) (u : Nat → Int32) => True) (fun u t => Ex G A (WMs cy mo h v nm (va_up f 28 u) g) t) A) ([.ref mo, .int n] : List Value).toArray s 0 0 A) (F0 m 4 ls []) := by
    intro N
    induction N with
    | zero => intro x3_1 x2_1 p1 H locs ls qf1_0 hm hP hD hS hl; exact absurd hm (Nat.not_lt_zero _)
    | succ N ih_1 =>
      intro x3_1 x2_1 p1 H locs ls qf1_0 hm hP hD hS hl
      have hf : MIf (va_up f 28 p1) := MIf.any (f := f) hf0 _
      have hR : RI v (va_up f 28 p1) := RI.up 28 (f := f) hR0 (by decide)
      have hL : WL v (va_up f 28 p1) := WL.upf 28 (f := f) hL0 (by decide)
      refine lv_iload_n hx hb dX12_left_4 rfl (lv_at hl 0 rfl) ?_
      refine lv_aload_n hx hb dX12_left_5 rfl (lv_at hl 2 rfl) ?_
      refine mg_11 hx hb ht hown hK hP dX12_left_6 ?_
      refine lv_aload_n hx hb dX12_left_9 rfl (lv_at hl 2 rfl) ?_
      refine mg_29 hx hb ht hown hK hP dX12_left_10 ?_
      have q_2 : 0 ≤ (v 29).toInt ∧ (v 29).toInt ≤ 1 := hv 29
      have q_3 : vp_in (v 29) 2 := vp_in_iff.mpr ⟨by omega, by omega⟩
      refine ml_11 hx hb hK hP q_3 dX12_left_13 ?_
      refine lv_topi (fun v_4 ev_4 => ?_)
      have q_5 : 0 ≤ v_4.toInt ∧ v_4.toInt ≤ 14 := by rw [ev_4]; exact MIf.rd 11 hf q_3
      have q_6 : v_4.toInt = ((f 11) (Int32.toNatClampNeg (v 29))).toInt := (congrArg Int32.toInt ev_4).trans (congrArg (fun z : Nat → Int32 => (z (Int32.toNatClampNeg (v 29))).toInt) (show (va_up f 28 p1) 11 = (f 11) from rfl))
      refine lv_icmp_ge (tgt := 137) hx hb dX12_left_14 (by decide) (fun c_7 => ?_) (fun c_7 => ?_)
      · have q_8 : v_4.toInt ≤ x3_1.toInt := (ow_le _ _).mp c_7
        refine lv_iload_n hx hb dX12_left_137 rfl (lv_at hl 1 rfl) ?_
        refine W.widen (k := 0) (n := 0) (Nat.le_of_ble_eq_true rfl) (Nat.le_of_ble_eq_true rfl) ?_
        exact W.iret (v := x2_1) hx hb hr (fun t ht9 hW => ⟨⟨x2_1, p1, rfl, trivial, ⟨by rw [ht9]; exact hP, hD⟩⟩, hS.F ht9⟩) hS.2.2 dX12_left_138
      · have q_9 : x3_1.toInt < v_4.toInt := by have := (not_congr (ow_le _ _)).mp c_7; omega
        refine lv_iconst (v := 1) hx hb dX12_left_17 (by decide) ?_
        refine lv_istore (lv' := [(4, .int 1), (3, .int x3_1), (2, .int x2_1), (0, .ref mo), (1, .int n)]) hx hb dX12_left_18 hl (by decide) rfl (fun ls hl => ?_)
        refine lv_iconst (v := 0) hx hb dX12_left_20 (by decide) ?_
        refine lv_istore (lv' := [(5, .int 0), (4, .int 1), (3, .int x3_1), (2, .int x2_1), (0, .ref mo), (1, .int n)]) hx hb dX12_left_21 hl (by decide) rfl (fun ls hl => ?_)
        refine W.widen (k := 0) (n := 0) (Nat.le_of_ble_eq_true rfl) (Nat.le_of_ble_eq_true rfl) ?_
        have lp_10 : ∀ (N : Nat) (x5_10 : Int32) (x4_10 : Int32) (p10 : Nat → Int32) (H : Heap) (locs : List Loc) (ls : Array Slot), (0 ≤ x5_10.toInt ∧ x5_10.toInt ≤ 30) → (0 ≤ x4_10.toInt ∧ x4_10.toInt ≤ 1) → (30 - x5_10.toInt).toNat < N → va_P G vwCl (WMs cy mo h v nm (va_up f 28 p10) g) H → va_D A (WMs cy mo h v nm (va_up f 28 p10) g) → va_S A s.heap H locs → lv_has ls 6 [(5, .int x5_10), (4, .int x4_10), (3, .int x3_1), (2, .int x2_1), (0, .ref mo), (1, .int n)] → W p l e (headSpec (.code yX12_left cX12_left 6 (some .int) :: TBg) ({ frames := 8, cells := 0, slots := 0, locals := 512 })).room s m ([.ref mo, .int n] : List Value).toArray below meth c H locs 0 0 (MQ below (va_Qi (fun (r : Int32) (u : Nat → Int32) => True) (fun u t => Ex G A (WMs cy mo h v nm (va_up f 28 u) g) t) A) ([.ref mo, .int n] : List Value).toArray s 0 0 A) (F0 m 23 ls []) := by
          intro N
          induction N with
          | zero => intro x5_10 x4_10 p10 H locs ls qf10_0 qf10_1 hm hP hD hS hl; exact absurd hm (Nat.not_lt_zero _)
          | succ N ih_10 =>
            intro x5_10 x4_10 p10 H locs ls qf10_0 qf10_1 hm hP hD hS hl
            have hf : MIf (va_up f 28 p10) := MIf.any (f := f) hf0 _
            have hR : RI v (va_up f 28 p10) := RI.up 28 (f := f) hR0 (by decide)
            have hL : WL v (va_up f 28 p10) := WL.upf 28 (f := f) hL0 (by decide)
            refine lv_iload hx hb dX12_left_23 (lv_at hl 0 rfl) ?_
            refine lv_aload_n hx hb dX12_left_25 rfl (lv_at hl 4 rfl) ?_
            refine mg_50 hx hb ht hown hK hP dX12_left_26 ?_
            have q_11 : 0 ≤ (v 50).toInt ∧ (v 50).toInt ≤ 30 := hv 50
            refine lv_icmp_ge (tgt := 116) hx hb dX12_left_29 (by decide) (fun c_12 => ?_) (fun c_12 => ?_)
            · have q_13 : (v 50).toInt ≤ x5_10.toInt := (ow_le _ _).mp c_12
              refine lv_iload_n hx hb dX12_left_116 rfl (lv_at hl 3 rfl) ?_
              refine lv_iload hx hb dX12_left_117 (lv_at hl 1 rfl) ?_
              refine lv_if_eq (tgt := 128) hx hb dX12_left_119 (by decide) (fun c_14 => ?_) (fun c_14 => ?_)
              · have q_15 : x4_10.toInt = (0 : Int32).toInt := (ow_eq _ _).mp c_14
                refine lv_iconst (v := 0) hx hb dX12_left_128 (by decide) ?_
                refine lv_ior hx hb dX12_left_129 ?_
                refine lv_topi (fun v_16 ev_16 => ?_)
                refine lv_istore_n (lv' := [(2, .int v_16), (5, .int x5_10), (4, .int x4_10), (3, .int x3_1), (0, .ref mo), (1, .int n)]) hx hb dX12_left_130 rfl hl (by decide) rfl (fun ls hl => ?_)
                obtain ⟨v_17, ev_17⟩ : ∃ y : Int32, y = x3_1 + 1 := ⟨_, rfl⟩
                refine lv_iinc (v := v_17) (lv' := [(3, .int v_17), (2, .int v_16), (5, .int x5_10), (4, .int x4_10), (0, .ref mo), (1, .int n)]) hx hb dX12_left_131 hl (k := 3) rfl (by rw [ev_17]; rfl) (by decide) rfl (fun ls hl => ?_)
                have q_18 : v_17.toInt = x3_1.toInt + 1 := by have := ow_add ev_17 (by omega) (by omega); omega
                refine lv_goto (tgt := 4) hx hb dX12_left_134 (by decide) ?_
                refine W.widen (k := 0) (n := 0) (Nat.le_of_ble_eq_true rfl) (Nat.le_of_ble_eq_true rfl) ?_
                exact ih_1 v_17 v_16 p10 _ _ _ (by omega) (by omega) hP hD hS (lv_sub hl [0, 1, 4, 5] rfl)
              · have q_19 : ¬ x4_10.toInt = (0 : Int32).toInt := by have := (not_congr (ow_eq _ _)).mp c_14; omega
                refine lv_iconst (v := 1) hx hb dX12_left_122 (by decide) ?_
                refine lv_iload_n hx hb dX12_left_123 rfl (lv_at hl 2 rfl) ?_
                refine lv_ishl hx hb dX12_left_124 ?_
                refine lv_topi (fun v_20 ev_20 => ?_)
                refine lv_goto (tgt := 129) hx hb dX12_left_125 (by decide) ?_
                refine lv_ior hx hb dX12_left_129 ?_
                refine lv_topi (fun v_21 ev_21 => ?_)
                refine lv_istore_n (lv' := [(2, .int v_21), (5, .int x5_10), (4, .int x4_10), (3, .int x3_1), (0, .ref mo), (1, .int n)]) hx hb dX12_left_130 rfl hl (by decide) rfl (fun ls hl => ?_)
                obtain ⟨v_22, ev_22⟩ : ∃ y : Int32, y = x3_1 + 1 := ⟨_, rfl⟩
                refine lv_iinc (v := v_22) (lv' := [(3, .int v_22), (2, .int v_21), (5, .int x5_10), (4, .int x4_10), (0, .ref mo), (1, .int n)]) hx hb dX12_left_131 hl (k := 3) rfl (by rw [ev_22]; rfl) (by decide) rfl (fun ls hl => ?_)
                have q_23 : v_22.toInt = x3_1.toInt + 1 := by have := ow_add ev_22 (by omega) (by omega); omega
                refine lv_goto (tgt := 4) hx hb dX12_left_134 (by decide) ?_
                refine W.widen (k := 0) (n := 0) (Nat.le_of_ble_eq_true rfl) (Nat.le_of_ble_eq_true rfl) ?_
                exact ih_1 v_22 v_21 p10 _ _ _ (by omega) (by omega) hP hD hS (lv_sub hl [0, 1, 4, 5] rfl)
            · have q_24 : x5_10.toInt < (v 50).toInt := by have := (not_congr (ow_le _ _)).mp c_12; omega
              refine lv_iload hx hb dX12_left_32 (lv_at hl 1 rfl) ?_
              refine lv_if_eq (tgt := 116) hx hb dX12_left_34 (by decide) (fun c_25 => ?_) (fun c_25 => ?_)
              · have q_26 : x4_10.toInt = (0 : Int32).toInt := (ow_eq _ _).mp c_25
                refine lv_iload_n hx hb dX12_left_116 rfl (lv_at hl 3 rfl) ?_
                refine lv_iload hx hb dX12_left_117 (lv_at hl 1 rfl) ?_
                refine lv_if_eq (tgt := 128) hx hb dX12_left_119 (by decide) (fun c_27 => ?_) (fun c_27 => ?_)
                · have q_28 : x4_10.toInt = (0 : Int32).toInt := (ow_eq _ _).mp c_27
                  refine lv_iconst (v := 0) hx hb dX12_left_128 (by decide) ?_
                  refine lv_ior hx hb dX12_left_129 ?_
                  refine lv_topi (fun v_29 ev_29 => ?_)
                  refine lv_istore_n (lv' := [(2, .int v_29), (5, .int x5_10), (4, .int x4_10), (3, .int x3_1), (0, .ref mo), (1, .int n)]) hx hb dX12_left_130 rfl hl (by decide) rfl (fun ls hl => ?_)
                  obtain ⟨v_30, ev_30⟩ : ∃ y : Int32, y = x3_1 + 1 := ⟨_, rfl⟩
                  refine lv_iinc (v := v_30) (lv' := [(3, .int v_30), (2, .int v_29), (5, .int x5_10), (4, .int x4_10), (0, .ref mo), (1, .int n)]) hx hb dX12_left_131 hl (k := 3) rfl (by rw [ev_30]; rfl) (by decide) rfl (fun ls hl => ?_)
                  have q_31 : v_30.toInt = x3_1.toInt + 1 := by have := ow_add ev_30 (by omega) (by omega); omega
                  refine lv_goto (tgt := 4) hx hb dX12_left_134 (by decide) ?_
                  refine W.widen (k := 0) (n := 0) (Nat.le_of_ble_eq_true rfl) (Nat.le_of_ble_eq_true rfl) ?_
                  exact ih_1 v_30 v_29 p10 _ _ _ (by omega) (by omega) hP hD hS (lv_sub hl [0, 1, 4, 5] rfl)
                · have q_32 : ¬ x4_10.toInt = (0 : Int32).toInt := by have := (not_congr (ow_eq _ _)).mp c_27; omega
                  exfalso
                  omega
              · have q_33 : ¬ x4_10.toInt = (0 : Int32).toInt := by have := (not_congr (ow_eq _ _)).mp c_25; omega
                refine lv_aload_n hx hb dX12_left_37 rfl (lv_at hl 4 rfl) ?_
                refine mg_46 hx hb ht hown hK hP dX12_left_38 ?_
                refine lv_iload hx hb dX12_left_41 (lv_at hl 0 rfl) ?_
                have q_34 : vp_in x5_10 30 := vp_in_iff.mpr ⟨by omega, by omega⟩
                refine ml_46 hx hb hK hP q_34 dX12_left_43 ?_
                refine lv_topi (fun v_35 ev_35 => ?_)
                refine lv_iload_n hx hb dX12_left_44 rfl (lv_at hl 5 rfl) ?_
                refine lv_icmp_gt (tgt := 103) hx hb dX12_left_45 (by decide) (fun c_36 => ?_) (fun c_36 => ?_)
                · have q_37 : n.toInt < v_35.toInt := (ow_lt _ _).mp c_36
                  refine lv_iconst (v := 1) hx hb dX12_left_103 (by decide) ?_
                  refine lv_goto (tgt := 108) hx hb dX12_left_104 (by decide) ?_
                  refine lv_istore (lv' := [(4, .int 1), (5, .int x5_10), (3, .int x3_1), (2, .int x2_1), (0, .ref mo), (1, .int n)]) hx hb dX12_left_108 hl (by decide) rfl (fun ls hl => ?_)
                  obtain ⟨v_38, ev_38⟩ : ∃ y : Int32, y = x5_10 + 1 := ⟨_, rfl⟩
                  refine lv_iinc (v := v_38) (lv' := [(5, .int v_38), (4, .int 1), (3, .int x3_1), (2, .int x2_1), (0, .ref mo), (1, .int n)]) hx hb dX12_left_110 hl (k := 1) rfl (by rw [ev_38]; rfl) (by decide) rfl (fun ls hl => ?_)
                  have q_39 : v_38.toInt = x5_10.toInt + 1 := by have := ow_add ev_38 (by omega) (by omega); omega
                  refine lv_goto (tgt := 23) hx hb dX12_left_113 (by decide) ?_
                  refine W.widen (k := 0) (n := 0) (Nat.le_of_ble_eq_true rfl) (Nat.le_of_ble_eq_true rfl) ?_
                  exact ih_10 v_38 (1) p10 _ _ _ (by omega) (by omega) (by omega) hP hD hS (lv_sub hl [0, 1, 2, 3, 4, 5] rfl)
                · have q_40 : v_35.toInt ≤ n.toInt := by have := (not_congr (ow_lt _ _)).mp c_36; omega
                  refine lv_aload_n hx hb dX12_left_48 rfl (lv_at hl 4 rfl) ?_
                  refine mg_47 hx hb ht hown hK hP dX12_left_49 ?_
                  refine lv_iload hx hb dX12_left_52 (lv_at hl 0 rfl) ?_
                  have q_41 : vp_in x5_10 30 := vp_in_iff.mpr ⟨by omega, by omega⟩
                  refine ml_47 hx hb hK hP q_41 dX12_left_54 ?_
                  refine lv_topi (fun v_42 ev_42 => ?_)
                  refine lv_if_lt (tgt := 69) hx hb dX12_left_55 (by decide) (fun c_43 => ?_) (fun c_43 => ?_)
                  · have q_44 : v_42.toInt < (0 : Int32).toInt := (ow_lt _ _).mp c_43
                    refine lv_aload_n hx hb dX12_left_69 rfl (lv_at hl 4 rfl) ?_
                    refine lv_aload_n hx hb dX12_left_70 rfl (lv_at hl 4 rfl) ?_
                    refine mg_45 hx hb ht hown hK hP dX12_left_71 ?_
                    refine lv_iload hx hb dX12_left_74 (lv_at hl 0 rfl) ?_
                    have q_45 : vp_in x5_10 30 := vp_in_iff.mpr ⟨by omega, by omega⟩
                    refine ml_45 hx hb hK hP q_45 dX12_left_76 ?_
                    refine lv_topi (fun v_46 ev_46 => ?_)
                    have q_47 : 0 ≤ v_46.toInt ∧ v_46.toInt ≤ 7 := by rw [ev_46]; exact MIf.rd 45 hf q_45
                    have q_48 : v_46.toInt = ((f 45) (Int32.toNatClampNeg x5_10)).toInt := (congrArg Int32.toInt ev_46).trans (congrArg (fun z : Nat → Int32 => (z (Int32.toNatClampNeg x5_10)).toInt) (show (va_up f 28 p10) 45 = (f 45) from rfl))
                    have hw9 := hL0 (Int32.toNatClampNeg x5_10) (by rw [ow_tn]; omega)
                    refine lv_aload_n hx hb dX12_left_77 rfl (lv_at hl 4 rfl) ?_
                    refine lv_iload_n hx hb dX12_left_78 rfl (lv_at hl 2 rfl) ?_
                    have hFc := fr_new hS hA
                    refine va_calli (va_runV (As := [.int x3_1]) (rest := [.int v_46, .ref mo]) ⟨hx, hb, hml, hown, ht⟩ (m_songOf l G cy _ mo h T v nm (va_up f 28 p10) g x3_1  hv hf hR hL (by omega)) (cwV 1 ht (gv k_94 k_95 k_96 k_61 k_93) rfl rfl rfl (by decide +kernel) ⟨Nat.le_of_ble_eq_true rfl, Nat.le_of_ble_eq_true rfl⟩) ⟨En.blind, va_recv hK hP (ci := 12) (q0 := 0) rfl rfl, fun U hU hW => ⟨rfl, En.of hU hW hP hK hD hN⟩⟩ rfl rfl hl.1 rfl (lv_room (Nat.le_of_ble_eq_true rfl)) dX12_left_79 ⟨Nat.le_of_ble_eq_true rfl, Nat.le_of_ble_eq_true rfl⟩) hS (fun q _ h => hFc q h) hFc (fun r_u_49 u_49 t9 H locs ht9 hvm hw hB hz1 hk1 hS => ?_)
                    have hP := fr_keep hP hk1
                    have wu_49 : (0 ≤ r_u_49.toInt ∧ r_u_49.toInt ≤ 27) ∧ r_u_49.toInt = 14 * (v 29).toInt + x3_1.toInt := hw
                    clear hFc hk1 hz1 hB hw
                    refine lv_aload_n hx hb dX12_left_82 rfl (lv_at hl 4 rfl) ?_
                    refine mg_48 hx hb ht hown hK hP dX12_left_83 ?_
                    refine lv_iload hx hb dX12_left_86 (lv_at hl 0 rfl) ?_
                    have q_50 : vp_in x5_10 30 := vp_in_iff.mpr ⟨by omega, by omega⟩
                    refine ml_48 hx hb hK hP q_50 dX12_left_88 ?_
                    refine lv_topi (fun v_51 ev_51 => ?_)
                    have q_52 : 0 ≤ v_51.toInt ∧ v_51.toInt ≤ 1 := by rw [ev_51]; exact MIf.rd 48 hf q_50
                    refine lv_iconst (v := 0) hx hb dX12_left_89 (by decide) ?_
                    have hFc := fr_free hD hS hA
                    refine va_calli (va_runV (As := [.int v_46, .int r_u_49, .int v_51, .int 0]) (rest := []) ⟨hx, hb, hml, hown, ht⟩ (m_opens l G cy _ mo h T v nm (va_up f 28 p10) g v_46 r_u_49 v_51 (0)  hv hf hR hL (by omega) (by omega) (show v_46.toInt < (f 12 (Int32.toNatClampNeg (v 29))).toInt from by omega)) (cwV 4 ht (gv k_145 k_146 k_147 k_61 k_144) rfl rfl rfl (by decide +kernel) ⟨Nat.le_of_ble_eq_true rfl, Nat.le_of_ble_eq_true rfl⟩) ⟨En.blind, va_recv hK hP (ci := 12) (q0 := 0) rfl rfl, fun U hU hW => ⟨rfl, En.of hU hW hP hK hD hN⟩⟩ rfl rfl hl.1 rfl (lv_room (Nat.le_of_ble_eq_true rfl)) dX12_left_90 ⟨Nat.le_of_ble_eq_true rfl, Nat.le_of_ble_eq_true rfl⟩) hS (fun q _ h => hFc q h) hFc (fun r_u_53 u_53 t9 H locs ht9 hvm hw hB hz1 hk1 hS => ?_)
                    obtain ⟨hP1, hD1⟩ := hB
                    rw [ht9] at hP1
                    have wu_53 := hw
                    have hP : va_P G vwCl (WMs cy mo h v nm (va_up f 28 u_53) g) H := by rw [bx_uu] at hP1; exact hP1
                    have hD : va_D A (WMs cy mo h v nm (va_up f 28 u_53) g) := by rw [bx_uu] at hD1; exact hD1.weaken (fun _ _ _ h => hFc _ h)
                    have hf : MIf (va_up f 28 u_53) := MIf.any hf0 _
                    have hR : RI v (va_up f 28 u_53) := RI.up 28 hR0 (by decide)
                    have hL : WL v (va_up f 28 u_53) := WL.upf 28 hL0 (by decide)
                    clear hFc hk1 hz1 hP1 hD1 hw
                    refine lv_aload_n hx hb dX12_left_93 rfl (lv_at hl 4 rfl) ?_
                    refine mg_49 hx hb ht hown hK hP dX12_left_94 ?_
                    refine lv_iload hx hb dX12_left_97 (lv_at hl 0 rfl) ?_
                    have q_54 : vp_in x5_10 30 := vp_in_iff.mpr ⟨by omega, by omega⟩
                    refine ml_49 hx hb hK hP q_54 dX12_left_99 ?_
                    refine lv_topi (fun v_55 ev_55 => ?_)
                    have q_56 : 0 ≤ v_55.toInt ∧ v_55.toInt ≤ 1 := by rw [ev_55]; exact MIf.rd 49 hf q_54
                    refine lv_icmp_ne (tgt := 107) hx hb dX12_left_100 (by decide) (fun c_57 => ?_) (fun c_57 => ?_)
                    · have q_58 : ¬ r_u_53.toInt = v_55.toInt := by have := (not_congr (ow_eq _ _)).mp c_57; omega
                      refine lv_iconst (v := 0) hx hb dX12_left_107 (by decide) ?_
                      refine lv_istore (lv' := [(4, .int 0), (5, .int x5_10), (3, .int x3_1), (2, .int x2_1), (0, .ref mo), (1, .int n)]) hx hb dX12_left_108 hl (by decide) rfl (fun ls hl => ?_)
                      obtain ⟨v_59, ev_59⟩ : ∃ y : Int32, y = x5_10 + 1 := ⟨_, rfl⟩
                      refine lv_iinc (v := v_59) (lv' := [(5, .int v_59), (4, .int 0), (3, .int x3_1), (2, .int x2_1), (0, .ref mo), (1, .int n)]) hx hb dX12_left_110 hl (k := 1) rfl (by rw [ev_59]; rfl) (by decide) rfl (fun ls hl => ?_)
                      have q_60 : v_59.toInt = x5_10.toInt + 1 := by have := ow_add ev_59 (by omega) (by omega); omega
                      refine lv_goto (tgt := 23) hx hb dX12_left_113 (by decide) ?_
                      refine W.widen (k := 0) (n := 0) (Nat.le_of_ble_eq_true rfl) (Nat.le_of_ble_eq_true rfl) ?_
                      exact ih_10 v_59 (0) u_53 _ _ _ (by omega) (by omega) (by omega) hP hD hS (lv_sub hl [0, 1, 2, 3, 4, 5] rfl)
                    · have q_61 : r_u_53.toInt = v_55.toInt := (ow_eq _ _).mp c_57
                      refine lv_iconst (v := 1) hx hb dX12_left_103 (by decide) ?_
                      refine lv_goto (tgt := 108) hx hb dX12_left_104 (by decide) ?_
                      refine lv_istore (lv' := [(4, .int 1), (5, .int x5_10), (3, .int x3_1), (2, .int x2_1), (0, .ref mo), (1, .int n)]) hx hb dX12_left_108 hl (by decide) rfl (fun ls hl => ?_)
                      obtain ⟨v_62, ev_62⟩ : ∃ y : Int32, y = x5_10 + 1 := ⟨_, rfl⟩
                      refine lv_iinc (v := v_62) (lv' := [(5, .int v_62), (4, .int 1), (3, .int x3_1), (2, .int x2_1), (0, .ref mo), (1, .int n)]) hx hb dX12_left_110 hl (k := 1) rfl (by rw [ev_62]; rfl) (by decide) rfl (fun ls hl => ?_)
                      have q_63 : v_62.toInt = x5_10.toInt + 1 := by have := ow_add ev_62 (by omega) (by omega); omega
                      refine lv_goto (tgt := 23) hx hb dX12_left_113 (by decide) ?_
                      refine W.widen (k := 0) (n := 0) (Nat.le_of_ble_eq_true rfl) (Nat.le_of_ble_eq_true rfl) ?_
                      exact ih_10 v_62 (1) u_53 _ _ _ (by omega) (by omega) (by omega) hP hD hS (lv_sub hl [0, 1, 2, 3, 4, 5] rfl)
                  · have q_64 : (0 : Int32).toInt ≤ v_42.toInt := by have := (not_congr (ow_lt _ _)).mp c_43; omega
                    refine lv_aload_n hx hb dX12_left_58 rfl (lv_at hl 4 rfl) ?_
                    refine mg_47 hx hb ht hown hK hP dX12_left_59 ?_
                    refine lv_iload hx hb dX12_left_62 (lv_at hl 0 rfl) ?_
                    refine ml_47 hx hb hK hP q_41 dX12_left_64 ?_
                    refine ow_top v_42 ev_42.symm ?_
                    refine lv_iload_n hx hb dX12_left_65 rfl (lv_at hl 5 rfl) ?_
                    refine lv_icmp_le (tgt := 103) hx hb dX12_left_66 (by decide) (fun c_65 => ?_) (fun c_65 => ?_)
                    · have q_66 : v_42.toInt ≤ n.toInt := (ow_le _ _).mp c_65
                      refine lv_iconst (v := 1) hx hb dX12_left_103 (by decide) ?_
                      refine lv_goto (tgt := 108) hx hb dX12_left_104 (by decide) ?_
                      refine lv_istore (lv' := [(4, .int 1), (5, .int x5_10), (3, .int x3_1), (2, .int x2_1), (0, .ref mo), (1, .int n)]) hx hb dX12_left_108 hl (by decide) rfl (fun ls hl => ?_)
                      obtain ⟨v_67, ev_67⟩ : ∃ y : Int32, y = x5_10 + 1 := ⟨_, rfl⟩
                      refine lv_iinc (v := v_67) (lv' := [(5, .int v_67), (4, .int 1), (3, .int x3_1), (2, .int x2_1), (0, .ref mo), (1, .int n)]) hx hb dX12_left_110 hl (k := 1) rfl (by rw [ev_67]; rfl) (by decide) rfl (fun ls hl => ?_)
                      have q_68 : v_67.toInt = x5_10.toInt + 1 := by have := ow_add ev_67 (by omega) (by omega); omega
                      refine lv_goto (tgt := 23) hx hb dX12_left_113 (by decide) ?_
                      refine W.widen (k := 0) (n := 0) (Nat.le_of_ble_eq_true rfl) (Nat.le_of_ble_eq_true rfl) ?_
                      exact ih_10 v_67 (1) p10 _ _ _ (by omega) (by omega) (by omega) hP hD hS (lv_sub hl [0, 1, 2, 3, 4, 5] rfl)
                    · have q_69 : n.toInt < v_42.toInt := by have := (not_congr (ow_le _ _)).mp c_65; omega
                      refine lv_aload_n hx hb dX12_left_69 rfl (lv_at hl 4 rfl) ?_
                      refine lv_aload_n hx hb dX12_left_70 rfl (lv_at hl 4 rfl) ?_
                      refine mg_45 hx hb ht hown hK hP dX12_left_71 ?_
                      refine lv_iload hx hb dX12_left_74 (lv_at hl 0 rfl) ?_
                      have q_70 : vp_in x5_10 30 := vp_in_iff.mpr ⟨by omega, by omega⟩
                      refine ml_45 hx hb hK hP q_70 dX12_left_76 ?_
                      refine lv_topi (fun v_71 ev_71 => ?_)
                      have q_72 : 0 ≤ v_71.toInt ∧ v_71.toInt ≤ 7 := by rw [ev_71]; exact MIf.rd 45 hf q_70
                      have q_73 : v_71.toInt = ((f 45) (Int32.toNatClampNeg x5_10)).toInt := (congrArg Int32.toInt ev_71).trans (congrArg (fun z : Nat → Int32 => (z (Int32.toNatClampNeg x5_10)).toInt) (show (va_up f 28 p10) 45 = (f 45) from rfl))
                      have hw9 := hL0 (Int32.toNatClampNeg x5_10) (by rw [ow_tn]; omega)
                      refine lv_aload_n hx hb dX12_left_77 rfl (lv_at hl 4 rfl) ?_
                      refine lv_iload_n hx hb dX12_left_78 rfl (lv_at hl 2 rfl) ?_
                      have hFc := fr_new hS hA
                      refine va_calli (va_runV (As := [.int x3_1]) (rest := [.int v_71, .ref mo]) ⟨hx, hb, hml, hown, ht⟩ (m_songOf l G cy _ mo h T v nm (va_up f 28 p10) g x3_1  hv hf hR hL (by omega)) (cwV 1 ht (gv k_94 k_95 k_96 k_61 k_93) rfl rfl rfl (by decide +kernel) ⟨Nat.le_of_ble_eq_true rfl, Nat.le_of_ble_eq_true rfl⟩) ⟨En.blind, va_recv hK hP (ci := 12) (q0 := 0) rfl rfl, fun U hU hW => ⟨rfl, En.of hU hW hP hK hD hN⟩⟩ rfl rfl hl.1 rfl (lv_room (Nat.le_of_ble_eq_true rfl)) dX12_left_79 ⟨Nat.le_of_ble_eq_true rfl, Nat.le_of_ble_eq_true rfl⟩) hS (fun q _ h => hFc q h) hFc (fun r_u_74 u_74 t9 H locs ht9 hvm hw hB hz1 hk1 hS => ?_)
                      have hP := fr_keep hP hk1
                      have wu_74 : (0 ≤ r_u_74.toInt ∧ r_u_74.toInt ≤ 27) ∧ r_u_74.toInt = 14 * (v 29).toInt + x3_1.toInt := hw
                      clear hFc hk1 hz1 hB hw
                      refine lv_aload_n hx hb dX12_left_82 rfl (lv_at hl 4 rfl) ?_
                      refine mg_48 hx hb ht hown hK hP dX12_left_83 ?_
                      refine lv_iload hx hb dX12_left_86 (lv_at hl 0 rfl) ?_
                      have q_75 : vp_in x5_10 30 := vp_in_iff.mpr ⟨by omega, by omega⟩
                      refine ml_48 hx hb hK hP q_75 dX12_left_88 ?_
                      refine lv_topi (fun v_76 ev_76 => ?_)
                      have q_77 : 0 ≤ v_76.toInt ∧ v_76.toInt ≤ 1 := by rw [ev_76]; exact MIf.rd 48 hf q_75
                      refine lv_iconst (v := 0) hx hb dX12_left_89 (by decide) ?_
                      have hFc := fr_free hD hS hA
                      refine va_calli (va_runV (As := [.int v_71, .int r_u_74, .int v_76, .int 0]) (rest := []) ⟨hx, hb, hml, hown, ht⟩ (m_opens l G cy _ mo h T v nm (va_up f 28 p10) g v_71 r_u_74 v_76 (0)  hv hf hR hL (by omega) (by omega) (show v_71.toInt < (f 12 (Int32.toNatClampNeg (v 29))).toInt from by omega)) (cwV 4 ht (gv k_145 k_146 k_147 k_61 k_144) rfl rfl rfl (by decide +kernel) ⟨Nat.le_of_ble_eq_true rfl, Nat.le_of_ble_eq_true rfl⟩) ⟨En.blind, va_recv hK hP (ci := 12) (q0 := 0) rfl rfl, fun U hU hW => ⟨rfl, En.of hU hW hP hK hD hN⟩⟩ rfl rfl hl.1 rfl (lv_room (Nat.le_of_ble_eq_true rfl)) dX12_left_90 ⟨Nat.le_of_ble_eq_true rfl, Nat.le_of_ble_eq_true rfl⟩) hS (fun q _ h => hFc q h) hFc (fun r_u_78 u_78 t9 H locs ht9 hvm hw hB hz1 hk1 hS => ?_)
                      obtain ⟨hP1, hD1⟩ := hB
                      rw [ht9] at hP1
                      have wu_78 := hw
                      have hP : va_P G vwCl (WMs cy mo h v nm (va_up f 28 u_78) g) H := by rw [bx_uu] at hP1; exact hP1
                      have hD : va_D A (WMs cy mo h v nm (va_up f 28 u_78) g) := by rw [bx_uu] at hD1; exact hD1.weaken (fun _ _ _ h => hFc _ h)
                      have hf : MIf (va_up f 28 u_78) := MIf.any hf0 _
                      have hR : RI v (va_up f 28 u_78) := RI.up 28 hR0 (by decide)
                      have hL : WL v (va_up f 28 u_78) := WL.upf 28 hL0 (by decide)
                      clear hFc hk1 hz1 hP1 hD1 hw
                      refine lv_aload_n hx hb dX12_left_93 rfl (lv_at hl 4 rfl) ?_
                      refine mg_49 hx hb ht hown hK hP dX12_left_94 ?_
                      refine lv_iload hx hb dX12_left_97 (lv_at hl 0 rfl) ?_
                      have q_79 : vp_in x5_10 30 := vp_in_iff.mpr ⟨by omega, by omega⟩
                      refine ml_49 hx hb hK hP q_79 dX12_left_99 ?_
                      refine lv_topi (fun v_80 ev_80 => ?_)
                      have q_81 : 0 ≤ v_80.toInt ∧ v_80.toInt ≤ 1 := by rw [ev_80]; exact MIf.rd 49 hf q_79
                      refine lv_icmp_ne (tgt := 107) hx hb dX12_left_100 (by decide) (fun c_82 => ?_) (fun c_82 => ?_)
                      · have q_83 : ¬ r_u_78.toInt = v_80.toInt := by have := (not_congr (ow_eq _ _)).mp c_82; omega
                        refine lv_iconst (v := 0) hx hb dX12_left_107 (by decide) ?_
                        refine lv_istore (lv' := [(4, .int 0), (5, .int x5_10), (3, .int x3_1), (2, .int x2_1), (0, .ref mo), (1, .int n)]) hx hb dX12_left_108 hl (by decide) rfl (fun ls hl => ?_)
                        obtain ⟨v_84, ev_84⟩ : ∃ y : Int32, y = x5_10 + 1 := ⟨_, rfl⟩
                        refine lv_iinc (v := v_84) (lv' := [(5, .int v_84), (4, .int 0), (3, .int x3_1), (2, .int x2_1), (0, .ref mo), (1, .int n)]) hx hb dX12_left_110 hl (k := 1) rfl (by rw [ev_84]; rfl) (by decide) rfl (fun ls hl => ?_)
                        have q_85 : v_84.toInt = x5_10.toInt + 1 := by have := ow_add ev_84 (by omega) (by omega); omega
                        refine lv_goto (tgt := 23) hx hb dX12_left_113 (by decide) ?_
                        refine W.widen (k := 0) (n := 0) (Nat.le_of_ble_eq_true rfl) (Nat.le_of_ble_eq_true rfl) ?_
                        exact ih_10 v_84 (0) u_78 _ _ _ (by omega) (by omega) (by omega) hP hD hS (lv_sub hl [0, 1, 2, 3, 4, 5] rfl)
                      · have q_86 : r_u_78.toInt = v_80.toInt := (ow_eq _ _).mp c_82
                        refine lv_iconst (v := 1) hx hb dX12_left_103 (by decide) ?_
                        refine lv_goto (tgt := 108) hx hb dX12_left_104 (by decide) ?_
                        refine lv_istore (lv' := [(4, .int 1), (5, .int x5_10), (3, .int x3_1), (2, .int x2_1), (0, .ref mo), (1, .int n)]) hx hb dX12_left_108 hl (by decide) rfl (fun ls hl => ?_)
                        obtain ⟨v_87, ev_87⟩ : ∃ y : Int32, y = x5_10 + 1 := ⟨_, rfl⟩
                        refine lv_iinc (v := v_87) (lv' := [(5, .int v_87), (4, .int 1), (3, .int x3_1), (2, .int x2_1), (0, .ref mo), (1, .int n)]) hx hb dX12_left_110 hl (k := 1) rfl (by rw [ev_87]; rfl) (by decide) rfl (fun ls hl => ?_)
                        have q_88 : v_87.toInt = x5_10.toInt + 1 := by have := ow_add ev_87 (by omega) (by omega); omega
                        refine lv_goto (tgt := 23) hx hb dX12_left_113 (by decide) ?_
                        refine W.widen (k := 0) (n := 0) (Nat.le_of_ble_eq_true rfl) (Nat.le_of_ble_eq_true rfl) ?_
                        exact ih_10 v_87 (1) u_78 _ _ _ (by omega) (by omega) (by omega) hP hD hS (lv_sub hl [0, 1, 2, 3, 4, 5] rfl)
        exact lp_10 _ (0) (1) p1 _ _ _ (by omega) (by omega) (Nat.lt_succ_self _) hP hD hS (lv_sub hl [0, 1, 2, 3, 4, 5] rfl)
  exact lp_1 _ (0) (0) (f 28) _ _ _ (by omega) (Nat.lt_succ_self _) hP hD hS (lv_sub hl [0, 1, 2, 3] rfl)
set_option maxHeartbeats 4000000 in
set_option maxRecDepth 100000 in
theorem m_next (l : Launch) (G : va_G) (cy : Nat → ClassId) (sz : Nat) (mo : Nat) (h : Nat → Nat) (T : Int) (v : Nat → Int32) (nm : Int64) (f : Nat → Nat → Int32) (g : Nat → Nat → Int64) (n : Int32) (n2 : Int32)  (hv : MIv T v) (hf : MIf f) (hR : RI v f) (hL : WL v f)  : Met l yX12_next (.code yX12_next cX12_next 9 (some .int) :: TBg) ({ frames := 9, cells := 0, slots := 0, locals := 576 }) (va_Pc [.ref mo, .int n, .int n2] (En G cy (WMs cy mo h v nm f g) sz)) (va_Qi (fun (r : Int32) (u : Nat → Int32) => True) (fun u t => Ex G (va_A (WMs cy mo h v nm f g) sz) (WMs cy mo h v nm (va_up f 28 u) g) t) (va_A (WMs cy mo h v nm f g) sz)) 0 0 (va_A (WMs cy mo h v nm f g) sz) := by
  refine Met.ofW (cc := cX12_next) (maxL := 9) (ret := (some .int)) (by decide) rfl ?_
  intro p e s m args below meth c s₁ B hml hv9
  obtain ⟨rfl, hsz, hP, hK, hD0, hN⟩ := hv9
  have hx := B.exec
  have hb := B.bytes
  have hr := B.returns
  have hts := atoms_spec (ws := .code yX12_next cX12_next 9 (some .int) :: TBg) B.pre
  have ht : ∀ w ∈ TBg, w.before _ s = true := fun w h => hts w (List.mem_cons_of_mem _ h)
  have hown : s.vm.findClass RX12 = some m.cls := findClass_of_methodNamed B.named
  have hlocks := B.notSynchronized
  subst hsz
  have hD := hD0.self (sz := s.heap.size)
  generalize hAe : va_A (WMs cy mo h v nm f g) s.heap.size = A at hD ⊢
  have hA : ∀ q : Nat, s.heap.size ≤ q → A q := fun q h => by rw [← hAe]; exact Or.inr h
  have hS : va_S A s.heap s.heap [] := va_S.rf
  have hl := lv_entry ([.ref mo, .int n, .int n2]) (n := 9) (Nat.le_of_ble_eq_true rfl)
  rw [lg_entry_eq]
  generalize (lg_sl ([.ref mo, .int n, .int n2]) ++ List.replicate (9 - (lg_sl ([.ref mo, .int n, .int n2])).length) Slot.unset).toArray = ls at hl ⊢
  have hl : lv_has ls 9 [(0, .ref mo), (1, .int n), (2, .int n2)] := hl
  have z0 : (-1 : Int32).toInt = -1 := by decide
  have z1 : (0 : Int32).toInt = 0 := by decide
  have z2 : (1 : Int32).toInt = 1 := by decide
  have z3 : (2 : Int32).toInt = 2 := by decide
  have hP : va_P G vwCl (WMs cy mo h v nm (va_up f 28 (f 28)) g) s.heap := by rw [va_up_id]; exact hP
  have hD : va_D A (WMs cy mo h v nm (va_up f 28 (f 28)) g) := by rw [va_up_id]; exact hD
  have hf0 := hf
  have hR0 := hR
  have hL0 := hL
  have hf : MIf (va_up f 28 (f 28)) := MIf.any hf _
  have hR : RI v (va_up f 28 (f 28)) := RI.up 28 hR (by decide)
  have hL : WL v (va_up f 28 (f 28)) := WL.upf 28 hL (by decide)
  refine lv_aload_n hx hb dX12_next_0 rfl (lv_at hl 0 rfl) ?_
  refine lv_iload_n hx hb dX12_next_1 rfl (lv_at hl 2 rfl) ?_
  have hFc := fr_free hD hS hA
  refine va_calli (va_runV (As := [.int n2]) (rest := []) ⟨hx, hb, hml, hown, ht⟩ (m_left l G cy _ mo h T v nm (va_up f 28 (f 28)) g n2  hv hf hR hL) (cwV 1 ht (gv k_149 k_150 k_151 k_61 k_148) rfl rfl rfl (by decide +kernel) ⟨Nat.le_of_ble_eq_true rfl, Nat.le_of_ble_eq_true rfl⟩) ⟨En.blind, va_recv hK hP (ci := 12) (q0 := 0) rfl rfl, fun U hU hW => ⟨rfl, En.of hU hW hP hK hD hN⟩⟩ rfl rfl hl.1 rfl (lv_room (Nat.le_of_ble_eq_true rfl)) dX12_next_2 ⟨Nat.le_of_ble_eq_true rfl, Nat.le_of_ble_eq_true rfl⟩) hS (fun q _ h => hFc q h) hFc (fun r_u_1 u_1 t9 H locs ht9 hvm hw hB hz1 hk1 hS => ?_)
  obtain ⟨hP1, hD1⟩ := hB
  rw [ht9] at hP1
  have wu_1 := hw
  have hP : va_P G vwCl (WMs cy mo h v nm (va_up f 28 u_1) g) H := by rw [bx_uu] at hP1; exact hP1
  have hD : va_D A (WMs cy mo h v nm (va_up f 28 u_1) g) := by rw [bx_uu] at hD1; exact hD1.weaken (fun _ _ _ h => hFc _ h)
  have hf : MIf (va_up f 28 u_1) := MIf.any hf0 _
  have hR : RI v (va_up f 28 u_1) := RI.up 28 hR0 (by decide)
  have hL : WL v (va_up f 28 u_1) := WL.upf 28 hL0 (by decide)
  clear hFc hk1 hz1 hP1 hD1 hw
  refine lv_istore_n (lv' := [(3, .int r_u_1), (0, .ref mo), (1, .int n), (2, .int n2)]) hx hb dX12_next_5 rfl hl (by decide) rfl (fun ls hl => ?_)
  refine lv_iload_n hx hb dX12_next_6 rfl (lv_at hl 2 rfl) ?_
  refine lv_iconst (v := 0) hx hb dX12_next_7 (by decide) ?_
  refine lv_iconst (v := 2) hx hb dX12_next_8 (by decide) ?_
  have hFc := fr_new hS hA
  refine va_calli (va_runS (As := [.int n, .int 0, .int 2]) (rest := []) ⟨hx, hb, hml, hown, ht⟩ (m_isIn l G cy _  n (0) (2)  ) (va_cwS 3 ht (gs k_59 k_60 k_61 k_58) rfl rfl rfl (by decide +kernel) ⟨Nat.le_of_ble_eq_true rfl, Nat.le_of_ble_eq_true rfl⟩) ⟨En.blind, fun U hU hW => ⟨rfl, En.of hU hW (va_P0 (H := _)) hK va_D0 hN⟩⟩ rfl rfl hl.1 rfl (lv_room (Nat.le_of_ble_eq_true rfl)) dX12_next_9 ⟨Nat.le_of_ble_eq_true rfl, Nat.le_of_ble_eq_true rfl⟩) hS (fun q _ h => hFc q h) hFc (fun r_u_2 u_2 t9 H locs ht9 hvm hw hB hz1 hk1 hS => ?_)
  have hP := fr_keep hP hk1
  have wu_2 := hw
  clear hFc hk1 hz1 hB hw
  refine lv_if_eq (tgt := 19) hx hb dX12_next_12 (by decide) (fun c_3 => ?_) (fun c_3 => ?_)
  · have q_4 : r_u_2.toInt = (0 : Int32).toInt := (ow_eq _ _).mp c_3
    refine lv_iconst (v := (-1)) hx hb dX12_next_19 (by decide) ?_
    refine W.widen (k := 0) (n := 0) (Nat.le_of_ble_eq_true rfl) (Nat.le_of_ble_eq_true rfl) ?_
    exact W.iret (v := (-1)) hx hb hr (fun t ht9 hW => ⟨⟨(-1), u_1, rfl, trivial, ⟨by rw [ht9]; exact hP, hD⟩⟩, hS.F ht9⟩) hS.2.2 dX12_next_20
  · have q_5 : ¬ r_u_2.toInt = (0 : Int32).toInt := by have := (not_congr (ow_eq _ _)).mp c_3; omega
    refine lv_iload_n hx hb dX12_next_15 rfl (lv_at hl 0 rfl) ?_
    refine lv_if_ne (tgt := 21) hx hb dX12_next_16 (by decide) (fun c_6 => ?_) (fun c_6 => ?_)
    · have q_7 : ¬ r_u_1.toInt = (0 : Int32).toInt := by have := (not_congr (ow_eq _ _)).mp c_6; omega
      refine lv_iconst (v := (-1)) hx hb dX12_next_21 (by decide) ?_
      refine lv_istore (lv' := [(4, .int (-1)), (3, .int r_u_1), (0, .ref mo), (1, .int n), (2, .int n2)]) hx hb dX12_next_22 hl (by decide) rfl (fun ls hl => ?_)
      refine lv_iconst (v := 0) hx hb dX12_next_24 (by decide) ?_
      refine lv_istore (lv' := [(5, .int 0), (4, .int (-1)), (3, .int r_u_1), (0, .ref mo), (1, .int n), (2, .int n2)]) hx hb dX12_next_25 hl (by decide) rfl (fun ls hl => ?_)
      refine lv_iconst (v := 0) hx hb dX12_next_27 (by decide) ?_
      refine lv_istore (lv' := [(6, .int 0), (5, .int 0), (4, .int (-1)), (3, .int r_u_1), (0, .ref mo), (1, .int n), (2, .int n2)]) hx hb dX12_next_28 hl (by decide) rfl (fun ls hl => ?_)
      refine W.widen (k := 0) (n := 0) (Nat.le_of_ble_eq_true rfl) (Nat.le_of_ble_eq_true rfl) ?_
      have lp_8 : ∀ (N : Nat) (x6_8 : Int32) (x5_8 : Int32) (x4_8 : Int32) (p8 : Nat → Int32) (H : Heap) (locs : List Loc) (ls : Array Slot), (0 ≤ x6_8.toInt ∧ x6_8.toInt ≤ 16) → (-1 ≤ x4_8.toInt ∧ x4_8.toInt ≤ 15) → (16 - x6_8.toInt).toNat < N → va_P G vwCl (WMs cy mo h v nm (va_up f 28 p8) g) H → va_D A (WMs cy mo h v nm (va_up f 28 p8) g) → va_S A s.heap H locs → lv_has ls 9 [(6, .int x6_8), (5, .int x5_8), (4, .int x4_8), (3, .int r_u_1), (0, .ref mo), (1, .int n), (2, .int n2)] → W p l e (headSpec (.code yX12_next cX12_next 9 (some .int) :: TBg) ({ frames := 9, cells := 0, slots := 0, locals := 576 })).room s m ([.ref mo, .int n, .int n2] : List Value).toArray below meth c H locs 0 0 (MQ below (va_Qi (fun (r : Int32) (u : Nat → Int32) => True) (fun u t => Ex G A (WMs cy mo h v nm (va_up f 28 u) g) t) A) ([.ref mo, .int n, .int n2] : List Value).toArray s 0 0 A) (F0 m 30 ls []) := by
        intro N
        induction N with
        | zero => intro x6_8 x5_8 x4_8 p8 H locs ls qf8_0 qf8_1 hm hP hD hS hl; exact absurd hm (Nat.not_lt_zero _)
        | succ N ih_8 =>
          intro x6_8 x5_8 x4_8 p8 H locs ls qf8_0 qf8_1 hm hP hD hS hl
          have hf : MIf (va_up f 28 p8) := MIf.any (f := f) hf0 _
          have hR : RI v (va_up f 28 p8) := RI.up 28 (f := f) hR0 (by decide)
          have hL : WL v (va_up f 28 p8) := WL.upf 28 (f := f) hL0 (by decide)
          refine lv_iload hx hb dX12_next_30 (lv_at hl 0 rfl) ?_
          refine lv_iconst (v := 2) hx hb dX12_next_32 (by decide) ?_
          refine lv_aload_n hx hb dX12_next_33 rfl (lv_at hl 4 rfl) ?_
          refine mg_12 hx hb ht hown hK hP dX12_next_34 ?_
          refine lv_aload_n hx hb dX12_next_37 rfl (lv_at hl 4 rfl) ?_
          refine mg_29 hx hb ht hown hK hP dX12_next_38 ?_
          have q_9 : 0 ≤ (v 29).toInt ∧ (v 29).toInt ≤ 1 := hv 29
          have q_10 : vp_in (v 29) 2 := vp_in_iff.mpr ⟨by omega, by omega⟩
          refine ml_12 hx hb hK hP q_10 dX12_next_41 ?_
          refine lv_topi (fun v_11 ev_11 => ?_)
          have q_12 : 0 ≤ v_11.toInt ∧ v_11.toInt ≤ 8 := by rw [ev_11]; exact MIf.rd 12 hf q_10
          have q_13 : v_11.toInt = ((f 12) (Int32.toNatClampNeg (v 29))).toInt := (congrArg Int32.toInt ev_11).trans (congrArg (fun z : Nat → Int32 => (z (Int32.toNatClampNeg (v 29))).toInt) (show (va_up f 28 p8) 12 = (f 12) from rfl))
          refine lv_imul hx hb dX12_next_42 ?_
          refine lv_topi (fun v_14 ev_14 => ?_)
          have q_15 : v_14.toInt = 2 * v_11.toInt := ow_mul ev_14 (by decide) (by omega) (by omega)
          refine lv_icmp_ge (tgt := 178) hx hb dX12_next_43 (by decide) (fun c_16 => ?_) (fun c_16 => ?_)
          · have q_17 : v_14.toInt ≤ x6_8.toInt := (ow_le _ _).mp c_16
            refine lv_iload hx hb dX12_next_178 (lv_at hl 2 rfl) ?_
            refine lv_if_ge (tgt := 187) hx hb dX12_next_180 (by decide) (fun c_18 => ?_) (fun c_18 => ?_)
            · have q_19 : (0 : Int32).toInt ≤ x4_8.toInt := (ow_le _ _).mp c_18
              refine lv_iload_n hx hb dX12_next_187 rfl (lv_at hl 5 rfl) ?_
              refine lv_if_ne (tgt := 198) hx hb dX12_next_188 (by decide) (fun c_20 => ?_) (fun c_20 => ?_)
              · have q_21 : ¬ n.toInt = (0 : Int32).toInt := by have := (not_congr (ow_eq _ _)).mp c_20; omega
                refine lv_iload_n hx hb dX12_next_198 rfl (lv_at hl 5 rfl) ?_
                refine lv_iconst (v := 1) hx hb dX12_next_199 (by decide) ?_
                refine lv_icmp_ne (tgt := 210) hx hb dX12_next_200 (by decide) (fun c_22 => ?_) (fun c_22 => ?_)
                · have q_23 : ¬ n.toInt = (1 : Int32).toInt := by have := (not_congr (ow_eq _ _)).mp c_22; omega
                  refine lv_iload hx hb dX12_next_210 (lv_at hl 1 rfl) ?_
                  refine W.widen (k := 0) (n := 0) (Nat.le_of_ble_eq_true rfl) (Nat.le_of_ble_eq_true rfl) ?_
                  exact W.iret (v := x5_8) hx hb hr (fun t ht9 hW => ⟨⟨x5_8, p8, rfl, trivial, ⟨by rw [ht9]; exact hP, hD⟩⟩, hS.F ht9⟩) hS.2.2 dX12_next_212
                · have q_24 : n.toInt = (1 : Int32).toInt := (ow_eq _ _).mp c_22
                  refine lv_iload hx hb dX12_next_203 (lv_at hl 2 rfl) ?_
                  refine lv_iconst (v := 2) hx hb dX12_next_205 (by decide) ?_
                  refine lv_irem hx hb dX12_next_206 (by decide) ?_
                  refine lv_topi (fun v_25 ev_25 => ?_)
                  have q_26 : 0 ≤ v_25.toInt ∧ v_25.toInt < 2 := ow_rem ev_25 (by decide) (by omega) (by omega)
                  refine lv_goto (tgt := 212) hx hb dX12_next_207 (by decide) ?_
                  refine W.widen (k := 0) (n := 0) (Nat.le_of_ble_eq_true rfl) (Nat.le_of_ble_eq_true rfl) ?_
                  exact W.iret (v := v_25) hx hb hr (fun t ht9 hW => ⟨⟨v_25, p8, rfl, trivial, ⟨by rw [ht9]; exact hP, hD⟩⟩, hS.F ht9⟩) hS.2.2 dX12_next_212
              · have q_27 : n.toInt = (0 : Int32).toInt := (ow_eq _ _).mp c_20
                refine lv_iload hx hb dX12_next_191 (lv_at hl 2 rfl) ?_
                refine lv_iconst (v := 2) hx hb dX12_next_193 (by decide) ?_
                refine lv_idiv hx hb dX12_next_194 (by decide) ?_
                refine lv_topi (fun v_28 ev_28 => ?_)
                have q_29 : v_28.toInt = x4_8.toInt / 2 := ow_div ev_28 (by decide) (by omega) (by omega)
                refine lv_goto (tgt := 212) hx hb dX12_next_195 (by decide) ?_
                refine W.widen (k := 0) (n := 0) (Nat.le_of_ble_eq_true rfl) (Nat.le_of_ble_eq_true rfl) ?_
                exact W.iret (v := v_28) hx hb hr (fun t ht9 hW => ⟨⟨v_28, p8, rfl, trivial, ⟨by rw [ht9]; exact hP, hD⟩⟩, hS.F ht9⟩) hS.2.2 dX12_next_212
            · have q_30 : x4_8.toInt < (0 : Int32).toInt := by have := (not_congr (ow_le _ _)).mp c_18; omega
              refine lv_iconst (v := (-1)) hx hb dX12_next_183 (by decide) ?_
              refine lv_goto (tgt := 212) hx hb dX12_next_184 (by decide) ?_
              refine W.widen (k := 0) (n := 0) (Nat.le_of_ble_eq_true rfl) (Nat.le_of_ble_eq_true rfl) ?_
              exact W.iret (v := (-1)) hx hb hr (fun t ht9 hW => ⟨⟨(-1), p8, rfl, trivial, ⟨by rw [ht9]; exact hP, hD⟩⟩, hS.F ht9⟩) hS.2.2 dX12_next_212
          · have q_31 : x6_8.toInt < v_14.toInt := by have := (not_congr (ow_le _ _)).mp c_16; omega
            refine lv_iconst (v := 0) hx hb dX12_next_46 (by decide) ?_
            refine lv_istore (lv' := [(7, .int 0), (6, .int x6_8), (5, .int x5_8), (4, .int x4_8), (3, .int r_u_1), (0, .ref mo), (1, .int n), (2, .int n2)]) hx hb dX12_next_47 hl (by decide) rfl (fun ls hl => ?_)
            refine lv_iconst (v := 0) hx hb dX12_next_49 (by decide) ?_
            refine lv_istore (lv' := [(8, .int 0), (7, .int 0), (6, .int x6_8), (5, .int x5_8), (4, .int x4_8), (3, .int r_u_1), (0, .ref mo), (1, .int n), (2, .int n2)]) hx hb dX12_next_50 hl (by decide) rfl (fun ls hl => ?_)
            refine W.widen (k := 0) (n := 0) (Nat.le_of_ble_eq_true rfl) (Nat.le_of_ble_eq_true rfl) ?_
            have lp_32 : ∀ (N : Nat) (x8_32 : Int32) (x7_32 : Int32) (p32 : Nat → Int32) (H : Heap) (locs : List Loc) (ls : Array Slot), (0 ≤ x8_32.toInt ∧ x8_32.toInt ≤ 14) → (14 - x8_32.toInt).toNat < N → va_P G vwCl (WMs cy mo h v nm (va_up f 28 p32) g) H → va_D A (WMs cy mo h v nm (va_up f 28 p32) g) → va_S A s.heap H locs → lv_has ls 9 [(8, .int x8_32), (7, .int x7_32), (6, .int x6_8), (5, .int x5_8), (4, .int x4_8), (3, .int r_u_1), (0, .ref mo), (1, .int n), (2, .int n2)] → W p l e (headSpec (.code yX12_next cX12_next 9 (some .int) :: TBg) ({ frames := 9, cells := 0, slots := 0, locals := 576 })).room s m ([.ref mo, .int n, .int n2] : List Value).toArray below meth c H locs 0 0 (MQ below (va_Qi (fun (r : Int32) (u : Nat → Int32) => True) (fun u t => Ex G A (WMs cy mo h v nm (va_up f 28 u) g) t) A) ([.ref mo, .int n, .int n2] : List Value).toArray s 0 0 A) (F0 m 52 ls []) := by
              intro N
              induction N with
              | zero => intro x8_32 x7_32 p32 H locs ls qf32_0 hm hP hD hS hl; exact absurd hm (Nat.not_lt_zero _)
              | succ N ih_32 =>
                intro x8_32 x7_32 p32 H locs ls qf32_0 hm hP hD hS hl
                have hf : MIf (va_up f 28 p32) := MIf.any (f := f) hf0 _
                have hR : RI v (va_up f 28 p32) := RI.up 28 (f := f) hR0 (by decide)
                have hL : WL v (va_up f 28 p32) := WL.upf 28 (f := f) hL0 (by decide)
                refine lv_iload hx hb dX12_next_52 (lv_at hl 0 rfl) ?_
                refine lv_aload_n hx hb dX12_next_54 rfl (lv_at hl 6 rfl) ?_
                refine mg_11 hx hb ht hown hK hP dX12_next_55 ?_
                refine lv_aload_n hx hb dX12_next_58 rfl (lv_at hl 6 rfl) ?_
                refine mg_29 hx hb ht hown hK hP dX12_next_59 ?_
                have q_33 : 0 ≤ (v 29).toInt ∧ (v 29).toInt ≤ 1 := hv 29
                have q_34 : vp_in (v 29) 2 := vp_in_iff.mpr ⟨by omega, by omega⟩
                refine ml_11 hx hb hK hP q_34 dX12_next_62 ?_
                refine lv_topi (fun v_35 ev_35 => ?_)
                have q_36 : 0 ≤ v_35.toInt ∧ v_35.toInt ≤ 14 := by rw [ev_35]; exact MIf.rd 11 hf q_34
                have q_37 : v_35.toInt = ((f 11) (Int32.toNatClampNeg (v 29))).toInt := (congrArg Int32.toInt ev_35).trans (congrArg (fun z : Nat → Int32 => (z (Int32.toNatClampNeg (v 29))).toInt) (show (va_up f 28 p32) 11 = (f 11) from rfl))
                refine lv_icmp_ge (tgt := 123) hx hb dX12_next_63 (by decide) (fun c_38 => ?_) (fun c_38 => ?_)
                · have q_39 : v_35.toInt ≤ x8_32.toInt := (ow_le _ _).mp c_38
                  refine lv_iload hx hb dX12_next_123 (lv_at hl 1 rfl) ?_
                  refine lv_iload_n hx hb dX12_next_125 rfl (lv_at hl 5 rfl) ?_
                  have hFc := fr_new hS hA
                  refine va_calli (va_runS (As := [.int r_u_1]) (rest := [.int x7_32]) ⟨hx, hb, hml, hown, ht⟩ (m_bitsAny l G cy _  r_u_1  ) (va_cwS 1 ht (gs k_153 k_154 k_61 k_152) rfl rfl rfl (by decide +kernel) ⟨Nat.le_of_ble_eq_true rfl, Nat.le_of_ble_eq_true rfl⟩) ⟨En.blind, fun U hU hW => ⟨rfl, En.of hU hW (va_P0 (H := _)) hK va_D0 hN⟩⟩ rfl rfl hl.1 rfl (lv_room (Nat.le_of_ble_eq_true rfl)) dX12_next_126 ⟨Nat.le_of_ble_eq_true rfl, Nat.le_of_ble_eq_true rfl⟩) hS (fun q _ h => hFc q h) hFc (fun r_u_40 u_40 t9 H locs ht9 hvm hw hB hz1 hk1 hS => ?_)
                  have hP := fr_keep hP hk1
                  have wu_40 := hw
                  clear hFc hk1 hz1 hB hw
                  refine lv_iload hx hb dX12_next_129 (lv_at hl 1 rfl) ?_
                  refine lv_isub hx hb dX12_next_131 ?_
                  refine lv_topi (fun v_41 ev_41 => ?_)
                  refine lv_icmp_le (tgt := 140) hx hb dX12_next_132 (by decide) (fun c_42 => ?_) (fun c_42 => ?_)
                  · have q_43 : x7_32.toInt ≤ v_41.toInt := (ow_le _ _).mp c_42
                    refine lv_iload_n hx hb dX12_next_140 rfl (lv_at hl 5 rfl) ?_
                    have hFc := fr_new hS hA
                    refine va_calli (va_runS (As := [.int r_u_1]) (rest := []) ⟨hx, hb, hml, hown, ht⟩ (m_bitsAny l G cy _  r_u_1  ) (va_cwS 1 ht (gs k_153 k_154 k_61 k_152) rfl rfl rfl (by decide +kernel) ⟨Nat.le_of_ble_eq_true rfl, Nat.le_of_ble_eq_true rfl⟩) ⟨En.blind, fun U hU hW => ⟨rfl, En.of hU hW (va_P0 (H := _)) hK va_D0 hN⟩⟩ rfl rfl hl.1 rfl (lv_room (Nat.le_of_ble_eq_true rfl)) dX12_next_141 ⟨Nat.le_of_ble_eq_true rfl, Nat.le_of_ble_eq_true rfl⟩) hS (fun q _ h => hFc q h) hFc (fun r_u_44 u_44 t9 H locs ht9 hvm hw hB hz1 hk1 hS => ?_)
                    have hP := fr_keep hP hk1
                    have wu_44 := hw
                    clear hFc hk1 hz1 hB hw
                    refine lv_iload hx hb dX12_next_144 (lv_at hl 1 rfl) ?_
                    refine lv_isub hx hb dX12_next_146 ?_
                    refine lv_topi (fun v_45 ev_45 => ?_)
                    refine lv_istore (lv' := [(8, .int v_45), (7, .int x7_32), (6, .int x6_8), (5, .int x5_8), (4, .int x4_8), (3, .int r_u_1), (0, .ref mo), (1, .int n), (2, .int n2)]) hx hb dX12_next_147 hl (by decide) rfl (fun ls hl => ?_)
                    refine lv_iload hx hb dX12_next_149 (lv_at hl 4 rfl) ?_
                    refine lv_if_lt (tgt := 164) hx hb dX12_next_151 (by decide) (fun c_46 => ?_) (fun c_46 => ?_)
                    · have q_47 : x4_8.toInt < (0 : Int32).toInt := (ow_lt _ _).mp c_46
                      refine lv_iload hx hb dX12_next_164 (lv_at hl 2 rfl) ?_
                      refine lv_istore (lv' := [(4, .int x6_8), (8, .int v_45), (7, .int x7_32), (6, .int x6_8), (5, .int x5_8), (3, .int r_u_1), (0, .ref mo), (1, .int n), (2, .int n2)]) hx hb dX12_next_166 hl (by decide) rfl (fun ls hl => ?_)
                      refine lv_iload hx hb dX12_next_168 (lv_at hl 1 rfl) ?_
                      refine lv_istore (lv' := [(5, .int v_45), (4, .int x6_8), (8, .int v_45), (7, .int x7_32), (6, .int x6_8), (3, .int r_u_1), (0, .ref mo), (1, .int n), (2, .int n2)]) hx hb dX12_next_170 hl (by decide) rfl (fun ls hl => ?_)
                      obtain ⟨v_48, ev_48⟩ : ∃ y : Int32, y = x6_8 + 1 := ⟨_, rfl⟩
                      refine lv_iinc (v := v_48) (lv' := [(6, .int v_48), (5, .int v_45), (4, .int x6_8), (8, .int v_45), (7, .int x7_32), (3, .int r_u_1), (0, .ref mo), (1, .int n), (2, .int n2)]) hx hb dX12_next_172 hl (k := 4) rfl (by rw [ev_48]; rfl) (by decide) rfl (fun ls hl => ?_)
                      have q_49 : v_48.toInt = x6_8.toInt + 1 := by have := ow_add ev_48 (by omega) (by omega); omega
                      refine lv_goto (tgt := 30) hx hb dX12_next_175 (by decide) ?_
                      refine W.widen (k := 0) (n := 0) (Nat.le_of_ble_eq_true rfl) (Nat.le_of_ble_eq_true rfl) ?_
                      exact ih_8 v_48 v_45 x6_8 p32 _ _ _ (by omega) (by omega) (by omega) hP hD hS (lv_sub hl [0, 1, 2, 5, 6, 7, 8] rfl)
                    · have q_50 : (0 : Int32).toInt ≤ x4_8.toInt := by have := (not_congr (ow_lt _ _)).mp c_46; omega
                      refine lv_iload hx hb dX12_next_154 (lv_at hl 0 rfl) ?_
                      refine lv_iload hx hb dX12_next_156 (lv_at hl 3 rfl) ?_
                      refine lv_icmp_lt (tgt := 164) hx hb dX12_next_158 (by decide) (fun c_51 => ?_) (fun c_51 => ?_)
                      · have q_52 : v_45.toInt < x5_8.toInt := (ow_lt _ _).mp c_51
                        refine lv_iload hx hb dX12_next_164 (lv_at hl 2 rfl) ?_
                        refine lv_istore (lv' := [(4, .int x6_8), (8, .int v_45), (7, .int x7_32), (6, .int x6_8), (5, .int x5_8), (3, .int r_u_1), (0, .ref mo), (1, .int n), (2, .int n2)]) hx hb dX12_next_166 hl (by decide) rfl (fun ls hl => ?_)
                        refine lv_iload hx hb dX12_next_168 (lv_at hl 1 rfl) ?_
                        refine lv_istore (lv' := [(5, .int v_45), (4, .int x6_8), (8, .int v_45), (7, .int x7_32), (6, .int x6_8), (3, .int r_u_1), (0, .ref mo), (1, .int n), (2, .int n2)]) hx hb dX12_next_170 hl (by decide) rfl (fun ls hl => ?_)
                        obtain ⟨v_53, ev_53⟩ : ∃ y : Int32, y = x6_8 + 1 := ⟨_, rfl⟩
                        refine lv_iinc (v := v_53) (lv' := [(6, .int v_53), (5, .int v_45), (4, .int x6_8), (8, .int v_45), (7, .int x7_32), (3, .int r_u_1), (0, .ref mo), (1, .int n), (2, .int n2)]) hx hb dX12_next_172 hl (k := 4) rfl (by rw [ev_53]; rfl) (by decide) rfl (fun ls hl => ?_)
                        have q_54 : v_53.toInt = x6_8.toInt + 1 := by have := ow_add ev_53 (by omega) (by omega); omega
                        refine lv_goto (tgt := 30) hx hb dX12_next_175 (by decide) ?_
                        refine W.widen (k := 0) (n := 0) (Nat.le_of_ble_eq_true rfl) (Nat.le_of_ble_eq_true rfl) ?_
                        exact ih_8 v_53 v_45 x6_8 p32 _ _ _ (by omega) (by omega) (by omega) hP hD hS (lv_sub hl [0, 1, 2, 5, 6, 7, 8] rfl)
                      · have q_55 : x5_8.toInt ≤ v_45.toInt := by have := (not_congr (ow_lt _ _)).mp c_51; omega
                        refine lv_goto (tgt := 172) hx hb dX12_next_161 (by decide) ?_
                        obtain ⟨v_56, ev_56⟩ : ∃ y : Int32, y = x6_8 + 1 := ⟨_, rfl⟩
                        refine lv_iinc (v := v_56) (lv' := [(6, .int v_56), (8, .int v_45), (7, .int x7_32), (5, .int x5_8), (4, .int x4_8), (3, .int r_u_1), (0, .ref mo), (1, .int n), (2, .int n2)]) hx hb dX12_next_172 hl (k := 2) rfl (by rw [ev_56]; rfl) (by decide) rfl (fun ls hl => ?_)
                        have q_57 : v_56.toInt = x6_8.toInt + 1 := by have := ow_add ev_56 (by omega) (by omega); omega
                        refine lv_goto (tgt := 30) hx hb dX12_next_175 (by decide) ?_
                        refine W.widen (k := 0) (n := 0) (Nat.le_of_ble_eq_true rfl) (Nat.le_of_ble_eq_true rfl) ?_
                        exact ih_8 v_56 x5_8 x4_8 p32 _ _ _ (by omega) (by omega) (by omega) hP hD hS (lv_sub hl [0, 3, 4, 5, 6, 7, 8] rfl)
                  · have q_58 : v_41.toInt < x7_32.toInt := by have := (not_congr (ow_le _ _)).mp c_42; omega
                    refine lv_iload hx hb dX12_next_135 (lv_at hl 1 rfl) ?_
                    refine lv_goto (tgt := 147) hx hb dX12_next_137 (by decide) ?_
                    refine lv_istore (lv' := [(8, .int x7_32), (7, .int x7_32), (6, .int x6_8), (5, .int x5_8), (4, .int x4_8), (3, .int r_u_1), (0, .ref mo), (1, .int n), (2, .int n2)]) hx hb dX12_next_147 hl (by decide) rfl (fun ls hl => ?_)
                    refine lv_iload hx hb dX12_next_149 (lv_at hl 4 rfl) ?_
                    refine lv_if_lt (tgt := 164) hx hb dX12_next_151 (by decide) (fun c_59 => ?_) (fun c_59 => ?_)
                    · have q_60 : x4_8.toInt < (0 : Int32).toInt := (ow_lt _ _).mp c_59
                      refine lv_iload hx hb dX12_next_164 (lv_at hl 2 rfl) ?_
                      refine lv_istore (lv' := [(4, .int x6_8), (8, .int x7_32), (7, .int x7_32), (6, .int x6_8), (5, .int x5_8), (3, .int r_u_1), (0, .ref mo), (1, .int n), (2, .int n2)]) hx hb dX12_next_166 hl (by decide) rfl (fun ls hl => ?_)
                      refine lv_iload hx hb dX12_next_168 (lv_at hl 1 rfl) ?_
                      refine lv_istore (lv' := [(5, .int x7_32), (4, .int x6_8), (8, .int x7_32), (7, .int x7_32), (6, .int x6_8), (3, .int r_u_1), (0, .ref mo), (1, .int n), (2, .int n2)]) hx hb dX12_next_170 hl (by decide) rfl (fun ls hl => ?_)
                      obtain ⟨v_61, ev_61⟩ : ∃ y : Int32, y = x6_8 + 1 := ⟨_, rfl⟩
                      refine lv_iinc (v := v_61) (lv' := [(6, .int v_61), (5, .int x7_32), (4, .int x6_8), (8, .int x7_32), (7, .int x7_32), (3, .int r_u_1), (0, .ref mo), (1, .int n), (2, .int n2)]) hx hb dX12_next_172 hl (k := 4) rfl (by rw [ev_61]; rfl) (by decide) rfl (fun ls hl => ?_)
                      have q_62 : v_61.toInt = x6_8.toInt + 1 := by have := ow_add ev_61 (by omega) (by omega); omega
                      refine lv_goto (tgt := 30) hx hb dX12_next_175 (by decide) ?_
                      refine W.widen (k := 0) (n := 0) (Nat.le_of_ble_eq_true rfl) (Nat.le_of_ble_eq_true rfl) ?_
                      exact ih_8 v_61 x7_32 x6_8 p32 _ _ _ (by omega) (by omega) (by omega) hP hD hS (lv_sub hl [0, 1, 2, 5, 6, 7, 8] rfl)
                    · have q_63 : (0 : Int32).toInt ≤ x4_8.toInt := by have := (not_congr (ow_lt _ _)).mp c_59; omega
                      refine lv_iload hx hb dX12_next_154 (lv_at hl 0 rfl) ?_
                      refine lv_iload hx hb dX12_next_156 (lv_at hl 3 rfl) ?_
                      refine lv_icmp_lt (tgt := 164) hx hb dX12_next_158 (by decide) (fun c_64 => ?_) (fun c_64 => ?_)
                      · have q_65 : x7_32.toInt < x5_8.toInt := (ow_lt _ _).mp c_64
                        refine lv_iload hx hb dX12_next_164 (lv_at hl 2 rfl) ?_
                        refine lv_istore (lv' := [(4, .int x6_8), (8, .int x7_32), (7, .int x7_32), (6, .int x6_8), (5, .int x5_8), (3, .int r_u_1), (0, .ref mo), (1, .int n), (2, .int n2)]) hx hb dX12_next_166 hl (by decide) rfl (fun ls hl => ?_)
                        refine lv_iload hx hb dX12_next_168 (lv_at hl 1 rfl) ?_
                        refine lv_istore (lv' := [(5, .int x7_32), (4, .int x6_8), (8, .int x7_32), (7, .int x7_32), (6, .int x6_8), (3, .int r_u_1), (0, .ref mo), (1, .int n), (2, .int n2)]) hx hb dX12_next_170 hl (by decide) rfl (fun ls hl => ?_)
                        obtain ⟨v_66, ev_66⟩ : ∃ y : Int32, y = x6_8 + 1 := ⟨_, rfl⟩
                        refine lv_iinc (v := v_66) (lv' := [(6, .int v_66), (5, .int x7_32), (4, .int x6_8), (8, .int x7_32), (7, .int x7_32), (3, .int r_u_1), (0, .ref mo), (1, .int n), (2, .int n2)]) hx hb dX12_next_172 hl (k := 4) rfl (by rw [ev_66]; rfl) (by decide) rfl (fun ls hl => ?_)
                        have q_67 : v_66.toInt = x6_8.toInt + 1 := by have := ow_add ev_66 (by omega) (by omega); omega
                        refine lv_goto (tgt := 30) hx hb dX12_next_175 (by decide) ?_
                        refine W.widen (k := 0) (n := 0) (Nat.le_of_ble_eq_true rfl) (Nat.le_of_ble_eq_true rfl) ?_
                        exact ih_8 v_66 x7_32 x6_8 p32 _ _ _ (by omega) (by omega) (by omega) hP hD hS (lv_sub hl [0, 1, 2, 5, 6, 7, 8] rfl)
                      · have q_68 : x5_8.toInt ≤ x7_32.toInt := by have := (not_congr (ow_lt _ _)).mp c_64; omega
                        refine lv_goto (tgt := 172) hx hb dX12_next_161 (by decide) ?_
                        obtain ⟨v_69, ev_69⟩ : ∃ y : Int32, y = x6_8 + 1 := ⟨_, rfl⟩
                        refine lv_iinc (v := v_69) (lv' := [(6, .int v_69), (8, .int x7_32), (7, .int x7_32), (5, .int x5_8), (4, .int x4_8), (3, .int r_u_1), (0, .ref mo), (1, .int n), (2, .int n2)]) hx hb dX12_next_172 hl (k := 2) rfl (by rw [ev_69]; rfl) (by decide) rfl (fun ls hl => ?_)
                        have q_70 : v_69.toInt = x6_8.toInt + 1 := by have := ow_add ev_69 (by omega) (by omega); omega
                        refine lv_goto (tgt := 30) hx hb dX12_next_175 (by decide) ?_
                        refine W.widen (k := 0) (n := 0) (Nat.le_of_ble_eq_true rfl) (Nat.le_of_ble_eq_true rfl) ?_
                        exact ih_8 v_69 x5_8 x4_8 p32 _ _ _ (by omega) (by omega) (by omega) hP hD hS (lv_sub hl [0, 3, 4, 5, 6, 7, 8] rfl)
                · have q_71 : x8_32.toInt < v_35.toInt := by have := (not_congr (ow_le _ _)).mp c_38; omega
                  refine lv_iload hx hb dX12_next_66 (lv_at hl 1 rfl) ?_
                  refine lv_iload_n hx hb dX12_next_68 rfl (lv_at hl 5 rfl) ?_
                  refine lv_iload hx hb dX12_next_69 (lv_at hl 0 rfl) ?_
                  refine lv_ishr hx hb dX12_next_71 ?_
                  refine lv_topi (fun v_72 ev_72 => ?_)
                  refine lv_iconst (v := 1) hx hb dX12_next_72 (by decide) ?_
                  refine lv_iand hx hb dX12_next_73 ?_
                  refine lv_topi (fun v_73 ev_73 => ?_)
                  have q_74 : 0 ≤ v_73.toInt ∧ v_73.toInt ≤ 1 := by rw [ev_73]; exact ow_and1 _
                  refine lv_iconst (v := 1) hx hb dX12_next_74 (by decide) ?_
                  refine lv_icmp_ne (tgt := 113) hx hb dX12_next_75 (by decide) (fun c_75 => ?_) (fun c_75 => ?_)
                  · have q_76 : ¬ v_73.toInt = (1 : Int32).toInt := by have := (not_congr (ow_eq _ _)).mp c_75; omega
                    refine lv_iconst (v := 0) hx hb dX12_next_113 (by decide) ?_
                    refine lv_iadd hx hb dX12_next_114 ?_
                    refine lv_topi (fun v_77 ev_77 => ?_)
                    refine lv_istore (lv' := [(7, .int v_77), (8, .int x8_32), (6, .int x6_8), (5, .int x5_8), (4, .int x4_8), (3, .int r_u_1), (0, .ref mo), (1, .int n), (2, .int n2)]) hx hb dX12_next_115 hl (by decide) rfl (fun ls hl => ?_)
                    obtain ⟨v_78, ev_78⟩ : ∃ y : Int32, y = x8_32 + 1 := ⟨_, rfl⟩
                    refine lv_iinc (v := v_78) (lv' := [(8, .int v_78), (7, .int v_77), (6, .int x6_8), (5, .int x5_8), (4, .int x4_8), (3, .int r_u_1), (0, .ref mo), (1, .int n), (2, .int n2)]) hx hb dX12_next_117 hl (k := 1) rfl (by rw [ev_78]; rfl) (by decide) rfl (fun ls hl => ?_)
                    have q_79 : v_78.toInt = x8_32.toInt + 1 := by have := ow_add ev_78 (by omega) (by omega); omega
                    refine lv_goto (tgt := 52) hx hb dX12_next_120 (by decide) ?_
                    refine W.widen (k := 0) (n := 0) (Nat.le_of_ble_eq_true rfl) (Nat.le_of_ble_eq_true rfl) ?_
                    exact ih_32 v_78 v_77 p32 _ _ _ (by omega) (by omega) hP hD hS (lv_sub hl [0, 1, 2, 3, 4, 5, 6, 7, 8] rfl)
                  · have q_80 : v_73.toInt = (1 : Int32).toInt := (ow_eq _ _).mp c_75
                    refine lv_aload_n hx hb dX12_next_78 rfl (lv_at hl 6 rfl) ?_
                    refine lv_iload hx hb dX12_next_79 (lv_at hl 2 rfl) ?_
                    refine lv_iconst (v := 2) hx hb dX12_next_81 (by decide) ?_
                    refine lv_idiv hx hb dX12_next_82 (by decide) ?_
                    refine lv_topi (fun v_81 ev_81 => ?_)
                    have q_82 : v_81.toInt = x6_8.toInt / 2 := ow_div ev_81 (by decide) (by omega) (by omega)
                    refine lv_aload_n hx hb dX12_next_83 rfl (lv_at hl 6 rfl) ?_
                    refine lv_iload hx hb dX12_next_84 (lv_at hl 0 rfl) ?_
                    have hFc := fr_new hS hA
                    refine va_calli (va_runV (As := [.int x8_32]) (rest := [.int v_81, .ref mo, .int x7_32]) ⟨hx, hb, hml, hown, ht⟩ (m_songOf l G cy _ mo h T v nm (va_up f 28 p32) g x8_32  hv hf hR hL (by omega)) (cwV 1 ht (gv k_94 k_95 k_96 k_61 k_93) rfl rfl rfl (by decide +kernel) ⟨Nat.le_of_ble_eq_true rfl, Nat.le_of_ble_eq_true rfl⟩) ⟨En.blind, va_recv hK hP (ci := 12) (q0 := 0) rfl rfl, fun U hU hW => ⟨rfl, En.of hU hW hP hK hD hN⟩⟩ rfl rfl hl.1 rfl (lv_room (Nat.le_of_ble_eq_true rfl)) dX12_next_86 ⟨Nat.le_of_ble_eq_true rfl, Nat.le_of_ble_eq_true rfl⟩) hS (fun q _ h => hFc q h) hFc (fun r_u_83 u_83 t9 H locs ht9 hvm hw hB hz1 hk1 hS => ?_)
                    have hP := fr_keep hP hk1
                    have wu_83 : (0 ≤ r_u_83.toInt ∧ r_u_83.toInt ≤ 27) ∧ r_u_83.toInt = 14 * (v 29).toInt + x8_32.toInt := hw
                    clear hFc hk1 hz1 hB hw
                    refine lv_iload hx hb dX12_next_89 (lv_at hl 2 rfl) ?_
                    refine lv_iconst (v := 2) hx hb dX12_next_91 (by decide) ?_
                    refine lv_irem hx hb dX12_next_92 (by decide) ?_
                    refine lv_topi (fun v_84 ev_84 => ?_)
                    have q_85 : 0 ≤ v_84.toInt ∧ v_84.toInt < 2 := ow_rem ev_84 (by decide) (by omega) (by omega)
                    refine lv_iconst (v := 1) hx hb dX12_next_93 (by decide) ?_
                    refine lv_icmp_ne (tgt := 101) hx hb dX12_next_94 (by decide) (fun c_86 => ?_) (fun c_86 => ?_)
                    · have q_87 : ¬ v_84.toInt = (1 : Int32).toInt := by have := (not_congr (ow_eq _ _)).mp c_86; omega
                      refine lv_iconst (v := 0) hx hb dX12_next_101 (by decide) ?_
                      refine lv_iconst (v := 0) hx hb dX12_next_102 (by decide) ?_
                      have hFc := fr_free hD hS hA
                      refine va_calli (va_runV (As := [.int v_81, .int r_u_83, .int 0, .int 0]) (rest := [.int x7_32]) ⟨hx, hb, hml, hown, ht⟩ (m_opens l G cy _ mo h T v nm (va_up f 28 p32) g v_81 r_u_83 (0) (0)  hv hf hR hL (by omega) (by omega) (show v_81.toInt < (f 12 (Int32.toNatClampNeg (v 29))).toInt from by omega)) (cwV 4 ht (gv k_145 k_146 k_147 k_61 k_144) rfl rfl rfl (by decide +kernel) ⟨Nat.le_of_ble_eq_true rfl, Nat.le_of_ble_eq_true rfl⟩) ⟨En.blind, va_recv hK hP (ci := 12) (q0 := 0) rfl rfl, fun U hU hW => ⟨rfl, En.of hU hW hP hK hD hN⟩⟩ rfl rfl hl.1 rfl (lv_room (Nat.le_of_ble_eq_true rfl)) dX12_next_103 ⟨Nat.le_of_ble_eq_true rfl, Nat.le_of_ble_eq_true rfl⟩) hS (fun q _ h => hFc q h) hFc (fun r_u_88 u_88 t9 H locs ht9 hvm hw hB hz1 hk1 hS => ?_)
                      obtain ⟨hP1, hD1⟩ := hB
                      rw [ht9] at hP1
                      have wu_88 := hw
                      have hP : va_P G vwCl (WMs cy mo h v nm (va_up f 28 u_88) g) H := by rw [bx_uu] at hP1; exact hP1
                      have hD : va_D A (WMs cy mo h v nm (va_up f 28 u_88) g) := by rw [bx_uu] at hD1; exact hD1.weaken (fun _ _ _ h => hFc _ h)
                      have hf : MIf (va_up f 28 u_88) := MIf.any hf0 _
                      have hR : RI v (va_up f 28 u_88) := RI.up 28 hR0 (by decide)
                      have hL : WL v (va_up f 28 u_88) := WL.upf 28 hL0 (by decide)
                      clear hFc hk1 hz1 hP1 hD1 hw
                      refine lv_if_eq (tgt := 113) hx hb dX12_next_106 (by decide) (fun c_89 => ?_) (fun c_89 => ?_)
                      · have q_90 : r_u_88.toInt = (0 : Int32).toInt := (ow_eq _ _).mp c_89
                        refine lv_iconst (v := 0) hx hb dX12_next_113 (by decide) ?_
                        refine lv_iadd hx hb dX12_next_114 ?_
                        refine lv_topi (fun v_91 ev_91 => ?_)
                        refine lv_istore (lv' := [(7, .int v_91), (8, .int x8_32), (6, .int x6_8), (5, .int x5_8), (4, .int x4_8), (3, .int r_u_1), (0, .ref mo), (1, .int n), (2, .int n2)]) hx hb dX12_next_115 hl (by decide) rfl (fun ls hl => ?_)
                        obtain ⟨v_92, ev_92⟩ : ∃ y : Int32, y = x8_32 + 1 := ⟨_, rfl⟩
                        refine lv_iinc (v := v_92) (lv' := [(8, .int v_92), (7, .int v_91), (6, .int x6_8), (5, .int x5_8), (4, .int x4_8), (3, .int r_u_1), (0, .ref mo), (1, .int n), (2, .int n2)]) hx hb dX12_next_117 hl (k := 1) rfl (by rw [ev_92]; rfl) (by decide) rfl (fun ls hl => ?_)
                        have q_93 : v_92.toInt = x8_32.toInt + 1 := by have := ow_add ev_92 (by omega) (by omega); omega
                        refine lv_goto (tgt := 52) hx hb dX12_next_120 (by decide) ?_
                        refine W.widen (k := 0) (n := 0) (Nat.le_of_ble_eq_true rfl) (Nat.le_of_ble_eq_true rfl) ?_
                        exact ih_32 v_92 v_91 u_88 _ _ _ (by omega) (by omega) hP hD hS (lv_sub hl [0, 1, 2, 3, 4, 5, 6, 7, 8] rfl)
                      · have q_94 : ¬ r_u_88.toInt = (0 : Int32).toInt := by have := (not_congr (ow_eq _ _)).mp c_89; omega
                        refine lv_iconst (v := 1) hx hb dX12_next_109 (by decide) ?_
                        refine lv_goto (tgt := 114) hx hb dX12_next_110 (by decide) ?_
                        refine lv_iadd hx hb dX12_next_114 ?_
                        refine lv_topi (fun v_95 ev_95 => ?_)
                        refine lv_istore (lv' := [(7, .int v_95), (8, .int x8_32), (6, .int x6_8), (5, .int x5_8), (4, .int x4_8), (3, .int r_u_1), (0, .ref mo), (1, .int n), (2, .int n2)]) hx hb dX12_next_115 hl (by decide) rfl (fun ls hl => ?_)
                        obtain ⟨v_96, ev_96⟩ : ∃ y : Int32, y = x8_32 + 1 := ⟨_, rfl⟩
                        refine lv_iinc (v := v_96) (lv' := [(8, .int v_96), (7, .int v_95), (6, .int x6_8), (5, .int x5_8), (4, .int x4_8), (3, .int r_u_1), (0, .ref mo), (1, .int n), (2, .int n2)]) hx hb dX12_next_117 hl (k := 1) rfl (by rw [ev_96]; rfl) (by decide) rfl (fun ls hl => ?_)
                        have q_97 : v_96.toInt = x8_32.toInt + 1 := by have := ow_add ev_96 (by omega) (by omega); omega
                        refine lv_goto (tgt := 52) hx hb dX12_next_120 (by decide) ?_
                        refine W.widen (k := 0) (n := 0) (Nat.le_of_ble_eq_true rfl) (Nat.le_of_ble_eq_true rfl) ?_
                        exact ih_32 v_96 v_95 u_88 _ _ _ (by omega) (by omega) hP hD hS (lv_sub hl [0, 1, 2, 3, 4, 5, 6, 7, 8] rfl)
                    · have q_98 : v_84.toInt = (1 : Int32).toInt := (ow_eq _ _).mp c_86
                      refine lv_iconst (v := 1) hx hb dX12_next_97 (by decide) ?_
                      refine lv_goto (tgt := 102) hx hb dX12_next_98 (by decide) ?_
                      refine lv_iconst (v := 0) hx hb dX12_next_102 (by decide) ?_
                      have hFc := fr_free hD hS hA
                      refine va_calli (va_runV (As := [.int v_81, .int r_u_83, .int 1, .int 0]) (rest := [.int x7_32]) ⟨hx, hb, hml, hown, ht⟩ (m_opens l G cy _ mo h T v nm (va_up f 28 p32) g v_81 r_u_83 (1) (0)  hv hf hR hL (by omega) (by omega) (show v_81.toInt < (f 12 (Int32.toNatClampNeg (v 29))).toInt from by omega)) (cwV 4 ht (gv k_145 k_146 k_147 k_61 k_144) rfl rfl rfl (by decide +kernel) ⟨Nat.le_of_ble_eq_true rfl, Nat.le_of_ble_eq_true rfl⟩) ⟨En.blind, va_recv hK hP (ci := 12) (q0 := 0) rfl rfl, fun U hU hW => ⟨rfl, En.of hU hW hP hK hD hN⟩⟩ rfl rfl hl.1 rfl (lv_room (Nat.le_of_ble_eq_true rfl)) dX12_next_103 ⟨Nat.le_of_ble_eq_true rfl, Nat.le_of_ble_eq_true rfl⟩) hS (fun q _ h => hFc q h) hFc (fun r_u_99 u_99 t9 H locs ht9 hvm hw hB hz1 hk1 hS => ?_)
                      obtain ⟨hP1, hD1⟩ := hB
                      rw [ht9] at hP1
                      have wu_99 := hw
                      have hP : va_P G vwCl (WMs cy mo h v nm (va_up f 28 u_99) g) H := by rw [bx_uu] at hP1; exact hP1
                      have hD : va_D A (WMs cy mo h v nm (va_up f 28 u_99) g) := by rw [bx_uu] at hD1; exact hD1.weaken (fun _ _ _ h => hFc _ h)
                      have hf : MIf (va_up f 28 u_99) := MIf.any hf0 _
                      have hR : RI v (va_up f 28 u_99) := RI.up 28 hR0 (by decide)
                      have hL : WL v (va_up f 28 u_99) := WL.upf 28 hL0 (by decide)
                      clear hFc hk1 hz1 hP1 hD1 hw
                      refine lv_if_eq (tgt := 113) hx hb dX12_next_106 (by decide) (fun c_100 => ?_) (fun c_100 => ?_)
                      · have q_101 : r_u_99.toInt = (0 : Int32).toInt := (ow_eq _ _).mp c_100
                        refine lv_iconst (v := 0) hx hb dX12_next_113 (by decide) ?_
                        refine lv_iadd hx hb dX12_next_114 ?_
                        refine lv_topi (fun v_102 ev_102 => ?_)
                        refine lv_istore (lv' := [(7, .int v_102), (8, .int x8_32), (6, .int x6_8), (5, .int x5_8), (4, .int x4_8), (3, .int r_u_1), (0, .ref mo), (1, .int n), (2, .int n2)]) hx hb dX12_next_115 hl (by decide) rfl (fun ls hl => ?_)
                        obtain ⟨v_103, ev_103⟩ : ∃ y : Int32, y = x8_32 + 1 := ⟨_, rfl⟩
                        refine lv_iinc (v := v_103) (lv' := [(8, .int v_103), (7, .int v_102), (6, .int x6_8), (5, .int x5_8), (4, .int x4_8), (3, .int r_u_1), (0, .ref mo), (1, .int n), (2, .int n2)]) hx hb dX12_next_117 hl (k := 1) rfl (by rw [ev_103]; rfl) (by decide) rfl (fun ls hl => ?_)
                        have q_104 : v_103.toInt = x8_32.toInt + 1 := by have := ow_add ev_103 (by omega) (by omega); omega
                        refine lv_goto (tgt := 52) hx hb dX12_next_120 (by decide) ?_
                        refine W.widen (k := 0) (n := 0) (Nat.le_of_ble_eq_true rfl) (Nat.le_of_ble_eq_true rfl) ?_
                        exact ih_32 v_103 v_102 u_99 _ _ _ (by omega) (by omega) hP hD hS (lv_sub hl [0, 1, 2, 3, 4, 5, 6, 7, 8] rfl)
                      · have q_105 : ¬ r_u_99.toInt = (0 : Int32).toInt := by have := (not_congr (ow_eq _ _)).mp c_100; omega
                        refine lv_iconst (v := 1) hx hb dX12_next_109 (by decide) ?_
                        refine lv_goto (tgt := 114) hx hb dX12_next_110 (by decide) ?_
                        refine lv_iadd hx hb dX12_next_114 ?_
                        refine lv_topi (fun v_106 ev_106 => ?_)
                        refine lv_istore (lv' := [(7, .int v_106), (8, .int x8_32), (6, .int x6_8), (5, .int x5_8), (4, .int x4_8), (3, .int r_u_1), (0, .ref mo), (1, .int n), (2, .int n2)]) hx hb dX12_next_115 hl (by decide) rfl (fun ls hl => ?_)
                        obtain ⟨v_107, ev_107⟩ : ∃ y : Int32, y = x8_32 + 1 := ⟨_, rfl⟩
                        refine lv_iinc (v := v_107) (lv' := [(8, .int v_107), (7, .int v_106), (6, .int x6_8), (5, .int x5_8), (4, .int x4_8), (3, .int r_u_1), (0, .ref mo), (1, .int n), (2, .int n2)]) hx hb dX12_next_117 hl (k := 1) rfl (by rw [ev_107]; rfl) (by decide) rfl (fun ls hl => ?_)
                        have q_108 : v_107.toInt = x8_32.toInt + 1 := by have := ow_add ev_107 (by omega) (by omega); omega
                        refine lv_goto (tgt := 52) hx hb dX12_next_120 (by decide) ?_
                        refine W.widen (k := 0) (n := 0) (Nat.le_of_ble_eq_true rfl) (Nat.le_of_ble_eq_true rfl) ?_
                        exact ih_32 v_107 v_106 u_99 _ _ _ (by omega) (by omega) hP hD hS (lv_sub hl [0, 1, 2, 3, 4, 5, 6, 7, 8] rfl)
            exact lp_32 _ (0) (0) p8 _ _ _ (by omega) (Nat.lt_succ_self _) hP hD hS (lv_sub hl [0, 1, 2, 3, 4, 5, 6, 7, 8] rfl)
      exact lp_8 _ (0) (0) ((-1)) u_1 _ _ _ (by omega) (by omega) (Nat.lt_succ_self _) hP hD hS (lv_sub hl [0, 1, 2, 3, 4, 5, 6] rfl)
    · have q_109 : r_u_1.toInt = (0 : Int32).toInt := (ow_eq _ _).mp c_6
      refine lv_iconst (v := (-1)) hx hb dX12_next_19 (by decide) ?_
      refine W.widen (k := 0) (n := 0) (Nat.le_of_ble_eq_true rfl) (Nat.le_of_ble_eq_true rfl) ?_
      exact W.iret (v := (-1)) hx hb hr (fun t ht9 hW => ⟨⟨(-1), u_1, rfl, trivial, ⟨by rw [ht9]; exact hP, hD⟩⟩, hS.F ht9⟩) hS.2.2 dX12_next_20
set_option maxHeartbeats 4000000 in
set_option maxRecDepth 100000 in
theorem m_sing (l : Launch) (G : va_G) (cy : Nat → ClassId) (sz : Nat) (mo : Nat) (h : Nat → Nat) (T : Int) (v : Nat → Int32) (nm : Int64) (f : Nat → Nat → Int32) (g : Nat → Nat → Int64) (n : Int32) (n2 : Int32)  (hv : MIv T v) (hf : MIf f) (hR : RI v f) (hL : WL v f)  : Met l yX12_sing (.code yX12_sing cX12_sing 5 (some .int) :: TBg) ({ frames := 8, cells := 0, slots := 0, locals := 512 }) (va_Pc [.ref mo, .int n, .int n2] (En G cy (WMs cy mo h v nm f g) sz)) (va_Qi (fun (r : Int32) (u : (Nat → Int32) × Int64 × (Nat → Nat → Int32) × (Nat → Nat → Int64)) => MIv T u.1 ∧ MIf u.2.2.1 ∧ RI u.1 u.2.2.1 ∧ WL u.1 u.2.2.1 ∧ (True)) (fun u t => Ex G (va_A (WMs cy mo h v nm f g) sz) (WMs cy mo h u.1 u.2.1 u.2.2.1 u.2.2.2) t) (va_A (WMs cy mo h v nm f g) sz)) 0 0 (va_A (WMs cy mo h v nm f g) sz) := by
  refine Met.ofW (cc := cX12_sing) (maxL := 5) (ret := (some .int)) (by decide) rfl ?_
  intro p e s m args below meth c s₁ B hml hv9
  obtain ⟨rfl, hsz, hP, hK, hD0, hN⟩ := hv9
  have hx := B.exec
  have hb := B.bytes
  have hr := B.returns
  have hts := atoms_spec (ws := .code yX12_sing cX12_sing 5 (some .int) :: TBg) B.pre
  have ht : ∀ w ∈ TBg, w.before _ s = true := fun w h => hts w (List.mem_cons_of_mem _ h)
  have hown : s.vm.findClass RX12 = some m.cls := findClass_of_methodNamed B.named
  have hlocks := B.notSynchronized
  subst hsz
  have hD := hD0.self (sz := s.heap.size)
  generalize hAe : va_A (WMs cy mo h v nm f g) s.heap.size = A at hD ⊢
  have hA : ∀ q : Nat, s.heap.size ≤ q → A q := fun q h => by rw [← hAe]; exact Or.inr h
  have hS : va_S A s.heap s.heap [] := va_S.rf
  have hl := lv_entry ([.ref mo, .int n, .int n2]) (n := 5) (Nat.le_of_ble_eq_true rfl)
  rw [lg_entry_eq]
  generalize (lg_sl ([.ref mo, .int n, .int n2]) ++ List.replicate (5 - (lg_sl ([.ref mo, .int n, .int n2])).length) Slot.unset).toArray = ls at hl ⊢
  have hl : lv_has ls 5 [(0, .ref mo), (1, .int n), (2, .int n2)] := hl
  have z0 : (-1 : Int32).toInt = -1 := by decide
  have z1 : (0 : Int32).toInt = 0 := by decide
  have z2 : (1 : Int32).toInt = 1 := by decide
  have z3 : (9 : Int32).toInt = 9 := by decide
  have z4 : (28 : Int32).toInt = 28 := by decide
  have z5 : (40 : Int32).toInt = 40 := by decide
  have z6 : (60 : Int32).toInt = 60 := by decide
  have z7 : (1120 : Int32).toInt = 1120 := by decide
  refine lv_iload_n hx hb dX12_sing_0 rfl (lv_at hl 1 rfl) ?_
  refine lv_iconst (v := 0) hx hb dX12_sing_1 (by decide) ?_
  refine lv_bipush (v := 60) hx hb dX12_sing_2 (by decide) ?_
  have hFc := fr_new hS hA
  refine va_calli (va_runS (As := [.int n, .int 0, .int 60]) (rest := []) ⟨hx, hb, hml, hown, ht⟩ (m_isIn l G cy _  n (0) (60)  ) (va_cwS 3 ht (gs k_59 k_60 k_61 k_58) rfl rfl rfl (by decide +kernel) ⟨Nat.le_of_ble_eq_true rfl, Nat.le_of_ble_eq_true rfl⟩) ⟨En.blind, fun U hU hW => ⟨rfl, En.of hU hW (va_P0 (H := _)) hK va_D0 hN⟩⟩ rfl rfl hl.1 rfl (lv_room (Nat.le_of_ble_eq_true rfl)) dX12_sing_4 ⟨Nat.le_of_ble_eq_true rfl, Nat.le_of_ble_eq_true rfl⟩) hS (fun q _ h => hFc q h) hFc (fun r_u_1 u_1 t9 H locs ht9 hvm hw hB hz1 hk1 hS => ?_)
  have hP := fr_keep hP hk1
  have wu_1 := hw
  clear hFc hk1 hz1 hB hw
  refine lv_if_eq (tgt := 29) hx hb dX12_sing_7 (by decide) (fun c_2 => ?_) (fun c_2 => ?_)
  · have q_3 : r_u_1.toInt = (0 : Int32).toInt := (ow_eq _ _).mp c_2
    refine lv_iconst (v := (-1)) hx hb dX12_sing_29 (by decide) ?_
    refine W.widen (k := 0) (n := 0) (Nat.le_of_ble_eq_true rfl) (Nat.le_of_ble_eq_true rfl) ?_
    exact W.iret (v := (-1)) hx hb hr (fun t ht9 hW => ⟨⟨(-1), (v, nm, f, g), rfl, ⟨hv, hf, hR, hL, trivial⟩, ⟨by rw [ht9]; exact hP, hD⟩⟩, hS.F ht9⟩) hS.2.2 dX12_sing_30
  · have q_4 : ¬ r_u_1.toInt = (0 : Int32).toInt := by have := (not_congr (ow_eq _ _)).mp c_2; omega
    refine lv_iload_n hx hb dX12_sing_10 rfl (lv_at hl 2 rfl) ?_
    refine lv_iconst (v := 1) hx hb dX12_sing_11 (by decide) ?_
    refine lv_bipush (v := 9) hx hb dX12_sing_12 (by decide) ?_
    have hFc := fr_new hS hA
    refine va_calli (va_runS (As := [.int n2, .int 1, .int 9]) (rest := []) ⟨hx, hb, hml, hown, ht⟩ (m_isIn l G cy _  n2 (1) (9)  ) (va_cwS 3 ht (gs k_59 k_60 k_61 k_58) rfl rfl rfl (by decide +kernel) ⟨Nat.le_of_ble_eq_true rfl, Nat.le_of_ble_eq_true rfl⟩) ⟨En.blind, fun U hU hW => ⟨rfl, En.of hU hW (va_P0 (H := _)) hK va_D0 hN⟩⟩ rfl rfl hl.1 rfl (lv_room (Nat.le_of_ble_eq_true rfl)) dX12_sing_14 ⟨Nat.le_of_ble_eq_true rfl, Nat.le_of_ble_eq_true rfl⟩) hS (fun q _ h => hFc q h) hFc (fun r_u_5 u_5 t9 H locs ht9 hvm hw hB hz1 hk1 hS => ?_)
    have hP := fr_keep hP hk1
    have wu_5 := hw
    clear hFc hk1 hz1 hB hw
    refine lv_if_eq (tgt := 29) hx hb dX12_sing_17 (by decide) (fun c_6 => ?_) (fun c_6 => ?_)
    · have q_7 : r_u_5.toInt = (0 : Int32).toInt := (ow_eq _ _).mp c_6
      refine lv_iconst (v := (-1)) hx hb dX12_sing_29 (by decide) ?_
      refine W.widen (k := 0) (n := 0) (Nat.le_of_ble_eq_true rfl) (Nat.le_of_ble_eq_true rfl) ?_
      exact W.iret (v := (-1)) hx hb hr (fun t ht9 hW => ⟨⟨(-1), (v, nm, f, g), rfl, ⟨hv, hf, hR, hL, trivial⟩, ⟨by rw [ht9]; exact hP, hD⟩⟩, hS.F ht9⟩) hS.2.2 dX12_sing_30
    · have q_8 : ¬ r_u_5.toInt = (0 : Int32).toInt := by have := (not_congr (ow_eq _ _)).mp c_6; omega
      refine lv_aload_n hx hb dX12_sing_20 rfl (lv_at hl 0 rfl) ?_
      refine mg_34 hx hb ht hown hK hP dX12_sing_21 ?_
      have q_9 : 0 ≤ (v 34).toInt ∧ (v 34).toInt ≤ 40 := hv 34
      refine lv_bipush (v := 40) hx hb dX12_sing_24 (by decide) ?_
      refine lv_icmp_ne (tgt := 31) hx hb dX12_sing_26 (by decide) (fun c_10 => ?_) (fun c_10 => ?_)
      · have q_11 : ¬ (v 34).toInt = (40 : Int32).toInt := by have := (not_congr (ow_eq _ _)).mp c_10; omega
        refine lv_aload_n hx hb dX12_sing_31 rfl (lv_at hl 0 rfl) ?_
        refine mg_16 hx hb ht hown hK hP dX12_sing_32 ?_
        refine lv_sipush (v := 1120) hx hb dX12_sing_35 (by decide) ?_
        refine lv_aload_n hx hb dX12_sing_38 rfl (lv_at hl 0 rfl) ?_
        refine mg_34 hx hb ht hown hK hP dX12_sing_39 ?_
        refine lv_iadd hx hb dX12_sing_42 ?_
        refine lv_topi (fun v_12 ev_12 => ?_)
        have q_13 : v_12.toInt = (1120 : Int32).toInt + (v 34).toInt := ow_add ev_12 (by omega) (by omega)
        refine lv_iload_n hx hb dX12_sing_43 rfl (lv_at hl 1 rfl) ?_
        have q_14 : vp_in v_12 1200 := vp_in_iff.mpr ⟨by omega, by omega⟩
        refine ms_16 hx hb hK hP hD hS q_14 dX12_sing_44 (fun H locs hP hD hS => ?_)
        have hf := MIf.up 16 (i := (Int32.toNatClampNeg v_12)) hf (ow_any n)
        have hL : WL v (va_up f 16 (upd (f 16) (Int32.toNatClampNeg v_12) n)) := WL.upf 16 hL (by decide)
        have hR : RI v (va_up f 16 (upd (f 16) (Int32.toNatClampNeg v_12) n)) := RI.up 16 hR (by decide)
        refine lv_aload_n hx hb dX12_sing_45 rfl (lv_at hl 0 rfl) ?_
        refine mg_17 hx hb ht hown hK hP dX12_sing_46 ?_
        refine lv_sipush (v := 1120) hx hb dX12_sing_49 (by decide) ?_
        refine lv_aload_n hx hb dX12_sing_52 rfl (lv_at hl 0 rfl) ?_
        refine mg_34 hx hb ht hown hK hP dX12_sing_53 ?_
        refine lv_iadd hx hb dX12_sing_56 ?_
        refine lv_topi (fun v_15 ev_15 => ?_)
        have q_16 : v_15.toInt = (1120 : Int32).toInt + (v 34).toInt := ow_add ev_15 (by omega) (by omega)
        refine lv_iload_n hx hb dX12_sing_57 rfl (lv_at hl 2 rfl) ?_
        have q_17 : vp_in v_15 1200 := vp_in_iff.mpr ⟨by omega, by omega⟩
        refine ms_17 hx hb hK hP hD hS q_17 dX12_sing_58 (fun H locs hP hD hS => ?_)
        have hf := MIf.up 17 (i := (Int32.toNatClampNeg v_15)) hf (show 0 ≤ n2.toInt ∧ n2.toInt ≤ 9 from by omega)
        have hL : WL v (va_up (va_up f 16 (upd (f 16) (Int32.toNatClampNeg v_12) n)) 17 (upd ((va_up f 16 (upd (f 16) (Int32.toNatClampNeg v_12) n)) 17) (Int32.toNatClampNeg v_15) n2)) := WL.upf 17 hL (by decide)
        have hR : RI v (va_up (va_up f 16 (upd (f 16) (Int32.toNatClampNeg v_12) n)) 17 (upd ((va_up f 16 (upd (f 16) (Int32.toNatClampNeg v_12) n)) 17) (Int32.toNatClampNeg v_15) n2)) := RI.up 17 hR (by decide)
        refine lv_aload_n hx hb dX12_sing_59 rfl (lv_at hl 0 rfl) ?_
        refine lv_dup hx hb dX12_sing_60 rfl ?_
        refine mg_34 hx hb ht hown hK hP dX12_sing_61 ?_
        refine lv_iconst (v := 1) hx hb dX12_sing_64 (by decide) ?_
        refine lv_iadd hx hb dX12_sing_65 ?_
        refine lv_topi (fun v_18 ev_18 => ?_)
        have q_19 : v_18.toInt = (v 34).toInt + (1 : Int32).toInt := ow_add ev_18 (by omega) (by omega)
        refine mp_34 hx hb ht hown hK hP hD hS dX12_sing_66 (fun H locs hP hD hS => ?_)
        have hv := MIv.up 34 hv (show 0 ≤ v_18.toInt ∧ v_18.toInt ≤ 40 from by omega)
        have hL : WL (va_up v 34 v_18) (va_up (va_up f 16 (upd (f 16) (Int32.toNatClampNeg v_12) n)) 17 (upd ((va_up f 16 (upd (f 16) (Int32.toNatClampNeg v_12) n)) 17) (Int32.toNatClampNeg v_15) n2)) := WL.upv 34 hL (by decide)
        have hR : RI (va_up v 34 v_18) (va_up (va_up f 16 (upd (f 16) (Int32.toNatClampNeg v_12) n)) 17 (upd ((va_up f 16 (upd (f 16) (Int32.toNatClampNeg v_12) n)) 17) (Int32.toNatClampNeg v_15) n2)) := RI.upv 34 hR (by decide)
        refine lv_iconst (v := 0) hx hb dX12_sing_69 (by decide) ?_
        refine lv_istore_n (lv' := [(3, .int 0), (0, .ref mo), (1, .int n), (2, .int n2)]) hx hb dX12_sing_70 rfl hl (by decide) rfl (fun ls hl => ?_)
        refine lv_iconst (v := 0) hx hb dX12_sing_71 (by decide) ?_
        refine lv_istore (lv' := [(4, .int 0), (3, .int 0), (0, .ref mo), (1, .int n), (2, .int n2)]) hx hb dX12_sing_72 hl (by decide) rfl (fun ls hl => ?_)
        refine W.widen (k := 0) (n := 0) (Nat.le_of_ble_eq_true rfl) (Nat.le_of_ble_eq_true rfl) ?_
        have lp_20 : ∀ (N : Nat) (x4_20 : Int32) (x3_20 : Int32) (v20 : Nat → Int32) (nm20 : Int64) (f20 : Nat → Nat → Int32) (g20 : Nat → Nat → Int64) (H : Heap) (locs : List Loc) (ls : Array Slot), MIv T v20 → MIf f20 → RI v20 f20 → WL v20 f20 → (0 ≤ x4_20.toInt ∧ x4_20.toInt ≤ 8) → (8 - x4_20.toInt).toNat < N → va_P G vwCl (WMs cy mo h v20 nm20 f20 g20) H → va_D A (WMs cy mo h v20 nm20 f20 g20) → va_S A s.heap H locs → lv_has ls 5 [(4, .int x4_20), (3, .int x3_20), (0, .ref mo), (1, .int n), (2, .int n2)] → W p l e (headSpec (.code yX12_sing cX12_sing 5 (some .int) :: TBg) ({ frames := 8, cells := 0, slots := 0, locals := 512 })).room s m ([.ref mo, .int n, .int n2] : List Value).toArray below meth c H locs 0 0 (MQ below (va_Qi (fun (r : Int32) (u : (Nat → Int32) × Int64 × (Nat → Nat → Int32) × (Nat → Nat → Int64)) => MIv T u.1 ∧ MIf u.2.2.1 ∧ RI u.1 u.2.2.1 ∧ WL u.1 u.2.2.1 ∧ (True)) (fun u t => Ex G A (WMs cy mo h u.1 u.2.1 u.2.2.1 u.2.2.2) t) A) ([.ref mo, .int n, .int n2] : List Value).toArray s 0 0 A) (F0 m 74 ls []) := by
          intro N
          induction N with
          | zero => intro x4_20 x3_20 v20 nm20 f20 g20 H locs ls hv hf hR hL qf20_0 hm hP hD hS hl; exact absurd hm (Nat.not_lt_zero _)
          | succ N ih_20 =>
            intro x4_20 x3_20 v20 nm20 f20 g20 H locs ls hv hf hR hL qf20_0 hm hP hD hS hl
            refine lv_iload hx hb dX12_sing_74 (lv_at hl 0 rfl) ?_
            refine lv_aload_n hx hb dX12_sing_76 rfl (lv_at hl 2 rfl) ?_
            refine mg_12 hx hb ht hown hK hP dX12_sing_77 ?_
            refine lv_aload_n hx hb dX12_sing_80 rfl (lv_at hl 2 rfl) ?_
            refine mg_29 hx hb ht hown hK hP dX12_sing_81 ?_
            have q_21 : 0 ≤ (v20 29).toInt ∧ (v20 29).toInt ≤ 1 := hv 29
            have q_22 : vp_in (v20 29) 2 := vp_in_iff.mpr ⟨by omega, by omega⟩
            refine ml_12 hx hb hK hP q_22 dX12_sing_84 ?_
            refine lv_topi (fun v_23 ev_23 => ?_)
            have q_24 : 0 ≤ v_23.toInt ∧ v_23.toInt ≤ 8 := by rw [ev_23]; exact MIf.rd 12 hf q_22
            have q_25 : v_23.toInt = ((f20 12) (Int32.toNatClampNeg (v20 29))).toInt := (congrArg Int32.toInt ev_23).trans (congrArg (fun z : Nat → Int32 => (z (Int32.toNatClampNeg (v20 29))).toInt) (show f20 12 = (f20 12) from rfl))
            refine lv_icmp_ge (tgt := 155) hx hb dX12_sing_85 (by decide) (fun c_26 => ?_) (fun c_26 => ?_)
            · have q_27 : v_23.toInt ≤ x4_20.toInt := (ow_le _ _).mp c_26
              refine lv_iload_n hx hb dX12_sing_155 rfl (lv_at hl 1 rfl) ?_
              refine W.widen (k := 0) (n := 0) (Nat.le_of_ble_eq_true rfl) (Nat.le_of_ble_eq_true rfl) ?_
              exact W.iret (v := x3_20) hx hb hr (fun t ht9 hW => ⟨⟨x3_20, (v20, nm20, f20, g20), rfl, ⟨hv, hf, hR, hL, trivial⟩, ⟨by rw [ht9]; exact hP, hD⟩⟩, hS.F ht9⟩) hS.2.2 dX12_sing_156
            · have q_28 : x4_20.toInt < v_23.toInt := by have := (not_congr (ow_le _ _)).mp c_26; omega
              refine lv_aload_n hx hb dX12_sing_88 rfl (lv_at hl 2 rfl) ?_
              refine mg_35 hx hb ht hown hK hP dX12_sing_89 ?_
              refine lv_iload hx hb dX12_sing_92 (lv_at hl 0 rfl) ?_
              have q_29 : vp_in x4_20 8 := vp_in_iff.mpr ⟨by omega, by omega⟩
              refine ml_35 hx hb hK hP q_29 dX12_sing_94 ?_
              refine lv_topi (fun v_30 ev_30 => ?_)
              have q_31 : 0 ≤ v_30.toInt ∧ v_30.toInt ≤ 1 := by rw [ev_30]; exact MIf.rd 35 hf q_29
              refine lv_if_ne (tgt := 149) hx hb dX12_sing_95 (by decide) (fun c_32 => ?_) (fun c_32 => ?_)
              · have q_33 : ¬ v_30.toInt = (0 : Int32).toInt := by have := (not_congr (ow_eq _ _)).mp c_32; omega
                obtain ⟨v_34, ev_34⟩ : ∃ y : Int32, y = x4_20 + 1 := ⟨_, rfl⟩
                refine lv_iinc (v := v_34) (lv' := [(4, .int v_34), (3, .int x3_20), (0, .ref mo), (1, .int n), (2, .int n2)]) hx hb dX12_sing_149 hl (k := 0) rfl (by rw [ev_34]; rfl) (by decide) rfl (fun ls hl => ?_)
                have q_35 : v_34.toInt = x4_20.toInt + 1 := by have := ow_add ev_34 (by omega) (by omega); omega
                refine lv_goto (tgt := 74) hx hb dX12_sing_152 (by decide) ?_
                refine W.widen (k := 0) (n := 0) (Nat.le_of_ble_eq_true rfl) (Nat.le_of_ble_eq_true rfl) ?_
                exact ih_20 v_34 x3_20 v20 nm20 f20 g20 _ _ _ hv hf hR hL (by omega) (by omega) hP hD hS (lv_sub hl [0, 1, 2, 3, 4] rfl)
              · have q_36 : v_30.toInt = (0 : Int32).toInt := (ow_eq _ _).mp c_32
                refine lv_aload_n hx hb dX12_sing_98 rfl (lv_at hl 2 rfl) ?_
                refine lv_iload hx hb dX12_sing_99 (lv_at hl 0 rfl) ?_
                refine lv_bipush (v := 28) hx hb dX12_sing_101 (by decide) ?_
                refine lv_aload_n hx hb dX12_sing_103 rfl (lv_at hl 2 rfl) ?_
                refine mg_37 hx hb ht hown hK hP dX12_sing_104 ?_
                have q_37 : 0 ≤ (v20 37).toInt ∧ (v20 37).toInt ≤ 1 := hv 37
                refine lv_aload_n hx hb dX12_sing_107 rfl (lv_at hl 2 rfl) ?_
                refine mg_36 hx hb ht hown hK hP dX12_sing_108 ?_
                refine lv_iload hx hb dX12_sing_111 (lv_at hl 0 rfl) ?_
                have q_38 : vp_in x4_20 8 := vp_in_iff.mpr ⟨by omega, by omega⟩
                refine ml_36 hx hb hK hP q_38 dX12_sing_113 ?_
                refine lv_topi (fun v_39 ev_39 => ?_)
                have hFc := fr_free hD hS hA
                refine va_calli (va_runV (As := [.int x4_20, .int 28, .int (v20 37), .int v_39]) (rest := []) ⟨hx, hb, hml, hown, ht⟩ (m_opens l G cy _ mo h T v20 nm20 f20 g20 x4_20 (28) (v20 37) v_39  hv hf hR hL (by omega) (by omega) (show x4_20.toInt < ((f20 12) (Int32.toNatClampNeg (v20 29))).toInt from by omega)) (cwV 4 ht (gv k_145 k_146 k_147 k_61 k_144) rfl rfl rfl (by decide +kernel) ⟨Nat.le_of_ble_eq_true rfl, Nat.le_of_ble_eq_true rfl⟩) ⟨En.blind, va_recv hK hP (ci := 12) (q0 := 0) rfl rfl, fun U hU hW => ⟨rfl, En.of hU hW hP hK hD hN⟩⟩ rfl rfl hl.1 rfl (lv_room (Nat.le_of_ble_eq_true rfl)) dX12_sing_114 ⟨Nat.le_of_ble_eq_true rfl, Nat.le_of_ble_eq_true rfl⟩) hS (fun q _ h => hFc q h) hFc (fun r_u_40 u_40 t9 H locs ht9 hvm hw hB hz1 hk1 hS => ?_)
                obtain ⟨hP1, hD1⟩ := hB
                rw [ht9] at hP1
                have wu_40 := hw
                have hP : va_P G vwCl (WMs cy mo h v20 nm20 (va_up f20 28 u_40) g20) H := hP1
                have hD : va_D A (WMs cy mo h v20 nm20 (va_up f20 28 u_40) g20) := hD1.weaken (fun _ _ _ h => hFc _ h)
                have hf : MIf (va_up f20 28 u_40) := MIf.any hf _
                have hR : RI v20 (va_up f20 28 u_40) := RI.up 28 hR (by decide)
                have hL : WL v20 (va_up f20 28 u_40) := WL.upf 28 hL (by decide)
                clear hFc hk1 hz1 hP1 hD1 hw
                refine lv_if_ne (tgt := 123) hx hb dX12_sing_117 (by decide) (fun c_41 => ?_) (fun c_41 => ?_)
                · have q_42 : ¬ r_u_40.toInt = (0 : Int32).toInt := by have := (not_congr (ow_eq _ _)).mp c_41; omega
                  refine lv_aload_n hx hb dX12_sing_123 rfl (lv_at hl 2 rfl) ?_
                  refine mg_35 hx hb ht hown hK hP dX12_sing_124 ?_
                  refine lv_iload hx hb dX12_sing_127 (lv_at hl 0 rfl) ?_
                  refine lv_iconst (v := 1) hx hb dX12_sing_129 (by decide) ?_
                  have q_43 : vp_in x4_20 8 := vp_in_iff.mpr ⟨by omega, by omega⟩
                  refine ms_35 hx hb hK hP hD hS q_43 dX12_sing_130 (fun H locs hP hD hS => ?_)
                  have hf := MIf.up 35 (i := (Int32.toNatClampNeg x4_20)) hf (ow_nz 1)
                  have hL : WL v20 (va_up (va_up f20 28 u_40) 35 (upd ((va_up f20 28 u_40) 35) (Int32.toNatClampNeg x4_20) (vp_nar .boolean 1))) := WL.upf 35 hL (by decide)
                  have hR : RI v20 (va_up (va_up f20 28 u_40) 35 (upd ((va_up f20 28 u_40) 35) (Int32.toNatClampNeg x4_20) (vp_nar .boolean 1))) := RI.up 35 hR (by decide)
                  refine lv_aload_n hx hb dX12_sing_131 rfl (lv_at hl 2 rfl) ?_
                  refine mg_36 hx hb ht hown hK hP dX12_sing_132 ?_
                  refine lv_iload hx hb dX12_sing_135 (lv_at hl 0 rfl) ?_
                  refine lv_dup2_11 hx hb dX12_sing_137 rfl rfl ?_
                  have q_44 : vp_in x4_20 8 := vp_in_iff.mpr ⟨by omega, by omega⟩
                  refine ml_36 hx hb hK hP q_44 dX12_sing_138 ?_
                  refine lv_topi (fun v_45 ev_45 => ?_)
                  refine lv_iconst (v := 1) hx hb dX12_sing_139 (by decide) ?_
                  refine lv_iadd hx hb dX12_sing_140 ?_
                  refine lv_topi (fun v_46 ev_46 => ?_)
                  have q_47 : vp_in x4_20 8 := vp_in_iff.mpr ⟨by omega, by omega⟩
                  refine ms_36 hx hb hK hP hD hS q_47 dX12_sing_141 (fun H locs hP hD hS => ?_)
                  have hf := MIf.up 36 (i := (Int32.toNatClampNeg x4_20)) hf (ow_any v_46)
                  have hL : WL v20 (va_up (va_up (va_up f20 28 u_40) 35 (upd ((va_up f20 28 u_40) 35) (Int32.toNatClampNeg x4_20) (vp_nar .boolean 1))) 36 (upd ((va_up (va_up f20 28 u_40) 35 (upd ((va_up f20 28 u_40) 35) (Int32.toNatClampNeg x4_20) (vp_nar .boolean 1))) 36) (Int32.toNatClampNeg x4_20) v_46)) := WL.upf 36 hL (by decide)
                  have hR : RI v20 (va_up (va_up (va_up f20 28 u_40) 35 (upd ((va_up f20 28 u_40) 35) (Int32.toNatClampNeg x4_20) (vp_nar .boolean 1))) 36 (upd ((va_up (va_up f20 28 u_40) 35 (upd ((va_up f20 28 u_40) 35) (Int32.toNatClampNeg x4_20) (vp_nar .boolean 1))) 36) (Int32.toNatClampNeg x4_20) v_46)) := RI.up 36 hR (by decide)
                  refine lv_iload_n hx hb dX12_sing_142 rfl (lv_at hl 1 rfl) ?_
                  refine lv_iconst (v := 1) hx hb dX12_sing_143 (by decide) ?_
                  refine lv_iload hx hb dX12_sing_144 (lv_at hl 0 rfl) ?_
                  refine lv_ishl hx hb dX12_sing_146 ?_
                  refine lv_topi (fun v_48 ev_48 => ?_)
                  refine lv_ior hx hb dX12_sing_147 ?_
                  refine lv_topi (fun v_49 ev_49 => ?_)
                  refine lv_istore_n (lv' := [(3, .int v_49), (4, .int x4_20), (0, .ref mo), (1, .int n), (2, .int n2)]) hx hb dX12_sing_148 rfl hl (by decide) rfl (fun ls hl => ?_)
                  obtain ⟨v_50, ev_50⟩ : ∃ y : Int32, y = x4_20 + 1 := ⟨_, rfl⟩
                  refine lv_iinc (v := v_50) (lv' := [(4, .int v_50), (3, .int v_49), (0, .ref mo), (1, .int n), (2, .int n2)]) hx hb dX12_sing_149 hl (k := 1) rfl (by rw [ev_50]; rfl) (by decide) rfl (fun ls hl => ?_)
                  have q_51 : v_50.toInt = x4_20.toInt + 1 := by have := ow_add ev_50 (by omega) (by omega); omega
                  refine lv_goto (tgt := 74) hx hb dX12_sing_152 (by decide) ?_
                  refine W.widen (k := 0) (n := 0) (Nat.le_of_ble_eq_true rfl) (Nat.le_of_ble_eq_true rfl) ?_
                  exact ih_20 v_50 v_49 v20 nm20 (va_up (va_up (va_up f20 28 u_40) 35 (upd ((va_up f20 28 u_40) 35) (Int32.toNatClampNeg x4_20) (vp_nar .boolean 1))) 36 (upd ((va_up (va_up f20 28 u_40) 35 (upd ((va_up f20 28 u_40) 35) (Int32.toNatClampNeg x4_20) (vp_nar .boolean 1))) 36) (Int32.toNatClampNeg x4_20) v_46)) g20 _ _ _ hv hf hR hL (by omega) (by omega) hP hD hS (lv_sub hl [0, 1, 2, 3, 4] rfl)
                · have q_52 : r_u_40.toInt = (0 : Int32).toInt := (ow_eq _ _).mp c_41
                  refine lv_goto (tgt := 149) hx hb dX12_sing_120 (by decide) ?_
                  obtain ⟨v_53, ev_53⟩ : ∃ y : Int32, y = x4_20 + 1 := ⟨_, rfl⟩
                  refine lv_iinc (v := v_53) (lv' := [(4, .int v_53), (3, .int x3_20), (0, .ref mo), (1, .int n), (2, .int n2)]) hx hb dX12_sing_149 hl (k := 0) rfl (by rw [ev_53]; rfl) (by decide) rfl (fun ls hl => ?_)
                  have q_54 : v_53.toInt = x4_20.toInt + 1 := by have := ow_add ev_53 (by omega) (by omega); omega
                  refine lv_goto (tgt := 74) hx hb dX12_sing_152 (by decide) ?_
                  refine W.widen (k := 0) (n := 0) (Nat.le_of_ble_eq_true rfl) (Nat.le_of_ble_eq_true rfl) ?_
                  exact ih_20 v_53 x3_20 v20 nm20 (va_up f20 28 u_40) g20 _ _ _ hv hf hR hL (by omega) (by omega) hP hD hS (lv_sub hl [0, 1, 2, 3, 4] rfl)
        exact lp_20 _ (0) (0) (va_up v 34 v_18) nm (va_up (va_up f 16 (upd (f 16) (Int32.toNatClampNeg v_12) n)) 17 (upd ((va_up f 16 (upd (f 16) (Int32.toNatClampNeg v_12) n)) 17) (Int32.toNatClampNeg v_15) n2)) g _ _ _ hv hf hR hL (by omega) (Nat.lt_succ_self _) hP hD hS (lv_sub hl [0, 1, 2, 3, 4] rfl)
      · have q_55 : (v 34).toInt = (40 : Int32).toInt := (ow_eq _ _).mp c_10
        refine lv_iconst (v := (-1)) hx hb dX12_sing_29 (by decide) ?_
        refine W.widen (k := 0) (n := 0) (Nat.le_of_ble_eq_true rfl) (Nat.le_of_ble_eq_true rfl) ?_
        exact W.iret (v := (-1)) hx hb hr (fun t ht9 hW => ⟨⟨(-1), (v, nm, f, g), rfl, ⟨hv, hf, hR, hL, trivial⟩, ⟨by rw [ht9]; exact hP, hD⟩⟩, hS.F ht9⟩) hS.2.2 dX12_sing_30
set_option maxHeartbeats 4000000 in
set_option maxRecDepth 100000 in
theorem m_song (l : Launch) (G : va_G) (cy : Nat → ClassId) (sz : Nat) (mo : Nat) (h : Nat → Nat) (T : Int) (v : Nat → Int32) (nm : Int64) (f : Nat → Nat → Int32) (g : Nat → Nat → Int64) (n : Int32) (n2 : Int32)  (hv : MIv T v) (hf : MIf f) (hR : RI v f) (hL : WL v f)  : Met l yX12_song (.code yX12_song cX12_song 6 (some .int) :: TBg) ({ frames := 9, cells := 0, slots := 0, locals := 576 }) (va_Pc [.ref mo, .int n, .int n2] (En G cy (WMs cy mo h v nm f g) sz)) (va_Qi (fun (r : Int32) (u : (Nat → Int32) × Int64 × (Nat → Nat → Int32) × (Nat → Nat → Int64)) => MIv T u.1 ∧ MIf u.2.2.1 ∧ RI u.1 u.2.2.1 ∧ WL u.1 u.2.2.1 ∧ (True)) (fun u t => Ex G (va_A (WMs cy mo h v nm f g) sz) (WMs cy mo h u.1 u.2.1 u.2.2.1 u.2.2.2) t) (va_A (WMs cy mo h v nm f g) sz)) 0 0 (va_A (WMs cy mo h v nm f g) sz) := by
  refine Met.ofW (cc := cX12_song) (maxL := 6) (ret := (some .int)) (by decide) rfl ?_
  intro p e s m args below meth c s₁ B hml hv9
  obtain ⟨rfl, hsz, hP, hK, hD0, hN⟩ := hv9
  have hx := B.exec
  have hb := B.bytes
  have hr := B.returns
  have hts := atoms_spec (ws := .code yX12_song cX12_song 6 (some .int) :: TBg) B.pre
  have ht : ∀ w ∈ TBg, w.before _ s = true := fun w h => hts w (List.mem_cons_of_mem _ h)
  have hown : s.vm.findClass RX12 = some m.cls := findClass_of_methodNamed B.named
  have hlocks := B.notSynchronized
  subst hsz
  have hD := hD0.self (sz := s.heap.size)
  generalize hAe : va_A (WMs cy mo h v nm f g) s.heap.size = A at hD ⊢
  have hA : ∀ q : Nat, s.heap.size ≤ q → A q := fun q h => by rw [← hAe]; exact Or.inr h
  have hS : va_S A s.heap s.heap [] := va_S.rf
  have hl := lv_entry ([.ref mo, .int n, .int n2]) (n := 6) (Nat.le_of_ble_eq_true rfl)
  rw [lg_entry_eq]
  generalize (lg_sl ([.ref mo, .int n, .int n2]) ++ List.replicate (6 - (lg_sl ([.ref mo, .int n, .int n2])).length) Slot.unset).toArray = ls at hl ⊢
  have hl : lv_has ls 6 [(0, .ref mo), (1, .int n), (2, .int n2)] := hl
  have z0 : (-60 : Int32).toInt = -60 := by decide
  have z1 : (-1 : Int32).toInt = -1 := by decide
  have z2 : (0 : Int32).toInt = 0 := by decide
  have z3 : (1 : Int32).toInt = 1 := by decide
  have z4 : (40 : Int32).toInt = 40 := by decide
  have z5 : (60 : Int32).toInt = 60 := by decide
  refine lv_aload_n hx hb dX12_song_0 rfl (lv_at hl 0 rfl) ?_
  refine lv_iload_n hx hb dX12_song_1 rfl (lv_at hl 1 rfl) ?_
  have hFc := fr_new hS hA
  refine va_calli (va_runV (As := [.int n]) (rest := []) ⟨hx, hb, hml, hown, ht⟩ (m_isTune l G cy _ mo h T v nm f g n  hv hf hR hL) (cwV 1 ht (gv k_90 k_91 k_92 k_61 k_89) rfl rfl rfl (by decide +kernel) ⟨Nat.le_of_ble_eq_true rfl, Nat.le_of_ble_eq_true rfl⟩) ⟨En.blind, va_recv hK hP (ci := 12) (q0 := 0) rfl rfl, fun U hU hW => ⟨rfl, En.of hU hW hP hK hD hN⟩⟩ rfl rfl hl.1 rfl (lv_room (Nat.le_of_ble_eq_true rfl)) dX12_song_2 ⟨Nat.le_of_ble_eq_true rfl, Nat.le_of_ble_eq_true rfl⟩) hS (fun q _ h => hFc q h) hFc (fun r_u_1 u_1 t9 H locs ht9 hvm hw hB hz1 hk1 hS => ?_)
  have hP := fr_keep hP hk1
  have wu_1 := hw
  clear hFc hk1 hz1 hB hw
  refine lv_if_eq (tgt := 38) hx hb dX12_song_5 (by decide) (fun c_2 => ?_) (fun c_2 => ?_)
  · have q_3 : r_u_1.toInt = (0 : Int32).toInt := (ow_eq _ _).mp c_2
    refine lv_iconst (v := (-1)) hx hb dX12_song_38 (by decide) ?_
    refine W.widen (k := 0) (n := 0) (Nat.le_of_ble_eq_true rfl) (Nat.le_of_ble_eq_true rfl) ?_
    exact W.iret (v := (-1)) hx hb hr (fun t ht9 hW => ⟨⟨(-1), (v, nm, f, g), rfl, ⟨hv, hf, hR, hL, trivial⟩, ⟨by rw [ht9]; exact hP, hD⟩⟩, hS.F ht9⟩) hS.2.2 dX12_song_39
  · have q_4 : ¬ r_u_1.toInt = (0 : Int32).toInt := by have := (not_congr (ow_eq _ _)).mp c_2; omega
    refine lv_iload_n hx hb dX12_song_8 rfl (lv_at hl 2 rfl) ?_
    refine lv_bipush (v := (-60)) hx hb dX12_song_9 (by decide) ?_
    refine lv_bipush (v := 60) hx hb dX12_song_11 (by decide) ?_
    have hFc := fr_new hS hA
    refine va_calli (va_runS (As := [.int n2, .int (-60), .int 60]) (rest := []) ⟨hx, hb, hml, hown, ht⟩ (m_isIn l G cy _  n2 ((-60)) (60)  ) (va_cwS 3 ht (gs k_59 k_60 k_61 k_58) rfl rfl rfl (by decide +kernel) ⟨Nat.le_of_ble_eq_true rfl, Nat.le_of_ble_eq_true rfl⟩) ⟨En.blind, fun U hU hW => ⟨rfl, En.of hU hW (va_P0 (H := _)) hK va_D0 hN⟩⟩ rfl rfl hl.1 rfl (lv_room (Nat.le_of_ble_eq_true rfl)) dX12_song_13 ⟨Nat.le_of_ble_eq_true rfl, Nat.le_of_ble_eq_true rfl⟩) hS (fun q _ h => hFc q h) hFc (fun r_u_5 u_5 t9 H locs ht9 hvm hw hB hz1 hk1 hS => ?_)
    have hP := fr_keep hP hk1
    have wu_5 := hw
    clear hFc hk1 hz1 hB hw
    refine lv_if_eq (tgt := 38) hx hb dX12_song_16 (by decide) (fun c_6 => ?_) (fun c_6 => ?_)
    · have q_7 : r_u_5.toInt = (0 : Int32).toInt := (ow_eq _ _).mp c_6
      refine lv_iconst (v := (-1)) hx hb dX12_song_38 (by decide) ?_
      refine W.widen (k := 0) (n := 0) (Nat.le_of_ble_eq_true rfl) (Nat.le_of_ble_eq_true rfl) ?_
      exact W.iret (v := (-1)) hx hb hr (fun t ht9 hW => ⟨⟨(-1), (v, nm, f, g), rfl, ⟨hv, hf, hR, hL, trivial⟩, ⟨by rw [ht9]; exact hP, hD⟩⟩, hS.F ht9⟩) hS.2.2 dX12_song_39
    · have q_8 : ¬ r_u_5.toInt = (0 : Int32).toInt := by have := (not_congr (ow_eq _ _)).mp c_6; omega
      refine lv_aload_n hx hb dX12_song_19 rfl (lv_at hl 0 rfl) ?_
      refine mg_34 hx hb ht hown hK hP dX12_song_20 ?_
      have q_9 : 0 ≤ (v 34).toInt ∧ (v 34).toInt ≤ 40 := hv 34
      refine lv_aload_n hx hb dX12_song_23 rfl (lv_at hl 0 rfl) ?_
      refine lv_aload_n hx hb dX12_song_24 rfl (lv_at hl 0 rfl) ?_
      refine lv_iload_n hx hb dX12_song_25 rfl (lv_at hl 1 rfl) ?_
      have hFc := fr_new hS hA
      refine va_calli (va_runV (As := [.int n]) (rest := [.ref mo, .int (v 34)]) ⟨hx, hb, hml, hown, ht⟩ (m_songOf l G cy _ mo h T v nm f g n  hv hf hR hL (by omega)) (cwV 1 ht (gv k_94 k_95 k_96 k_61 k_93) rfl rfl rfl (by decide +kernel) ⟨Nat.le_of_ble_eq_true rfl, Nat.le_of_ble_eq_true rfl⟩) ⟨En.blind, va_recv hK hP (ci := 12) (q0 := 0) rfl rfl, fun U hU hW => ⟨rfl, En.of hU hW hP hK hD hN⟩⟩ rfl rfl hl.1 rfl (lv_room (Nat.le_of_ble_eq_true rfl)) dX12_song_26 ⟨Nat.le_of_ble_eq_true rfl, Nat.le_of_ble_eq_true rfl⟩) hS (fun q _ h => hFc q h) hFc (fun r_u_10 u_10 t9 H locs ht9 hvm hw hB hz1 hk1 hS => ?_)
      have hP := fr_keep hP hk1
      have wu_10 := hw
      clear hFc hk1 hz1 hB hw
      have hFc := fr_new hS hA
      refine va_calli (va_runV (As := [.int r_u_10]) (rest := [.int (v 34)]) ⟨hx, hb, hml, hown, ht⟩ (m_many27 l G cy _ mo h T v nm f g r_u_10  hv hf hR hL (by omega)) (cwV 1 ht (gv k_63 k_64 k_65 k_61 k_62) rfl rfl rfl (by decide +kernel) ⟨Nat.le_of_ble_eq_true rfl, Nat.le_of_ble_eq_true rfl⟩) ⟨En.blind, va_recv hK hP (ci := 12) (q0 := 0) rfl rfl, fun U hU hW => ⟨rfl, En.of hU hW hP hK hD hN⟩⟩ rfl rfl hl.1 rfl (lv_room (Nat.le_of_ble_eq_true rfl)) dX12_song_29 ⟨Nat.le_of_ble_eq_true rfl, Nat.le_of_ble_eq_true rfl⟩) hS (fun q _ h => hFc q h) hFc (fun r_u_11 u_11 t9 H locs ht9 hvm hw hB hz1 hk1 hS => ?_)
      have hP := fr_keep hP hk1
      have wu_11 := hw
      clear hFc hk1 hz1 hB hw
      refine lv_iadd hx hb dX12_song_32 ?_
      refine lv_topi (fun v_12 ev_12 => ?_)
      have q_13 : v_12.toInt = (v 34).toInt + r_u_11.toInt := ow_add ev_12 (by omega) (by omega)
      refine lv_bipush (v := 40) hx hb dX12_song_33 (by decide) ?_
      refine lv_icmp_le (tgt := 40) hx hb dX12_song_35 (by decide) (fun c_14 => ?_) (fun c_14 => ?_)
      · have q_15 : v_12.toInt ≤ (40 : Int32).toInt := (ow_le _ _).mp c_14
        refine lv_bipush (v := 40) hx hb dX12_song_40 (by decide) ?_
        refine lv_aload_n hx hb dX12_song_42 rfl (lv_at hl 0 rfl) ?_
        refine lv_iload_n hx hb dX12_song_43 rfl (lv_at hl 1 rfl) ?_
        have hFc := fr_new hS hA
        refine va_calli (va_runV (As := [.int n]) (rest := [.int 40]) ⟨hx, hb, hml, hown, ht⟩ (m_songOf l G cy _ mo h T v nm f g n  hv hf hR hL (by omega)) (cwV 1 ht (gv k_94 k_95 k_96 k_61 k_93) rfl rfl rfl (by decide +kernel) ⟨Nat.le_of_ble_eq_true rfl, Nat.le_of_ble_eq_true rfl⟩) ⟨En.blind, va_recv hK hP (ci := 12) (q0 := 0) rfl rfl, fun U hU hW => ⟨rfl, En.of hU hW hP hK hD hN⟩⟩ rfl rfl hl.1 rfl (lv_room (Nat.le_of_ble_eq_true rfl)) dX12_song_44 ⟨Nat.le_of_ble_eq_true rfl, Nat.le_of_ble_eq_true rfl⟩) hS (fun q _ h => hFc q h) hFc (fun r_u_16 u_16 t9 H locs ht9 hvm hw hB hz1 hk1 hS => ?_)
        have hP := fr_keep hP hk1
        have wu_16 := hw
        clear hFc hk1 hz1 hB hw
        refine lv_imul hx hb dX12_song_47 ?_
        refine lv_topi (fun v_17 ev_17 => ?_)
        have q_18 : v_17.toInt = 40 * r_u_16.toInt := ow_mul ev_17 (by decide) (by omega) (by omega)
        refine lv_istore_n (lv' := [(3, .int v_17), (0, .ref mo), (1, .int n), (2, .int n2)]) hx hb dX12_song_48 rfl hl (by decide) rfl (fun ls hl => ?_)
        refine lv_iconst (v := 0) hx hb dX12_song_49 (by decide) ?_
        refine lv_istore (lv' := [(4, .int 0), (3, .int v_17), (0, .ref mo), (1, .int n), (2, .int n2)]) hx hb dX12_song_50 hl (by decide) rfl (fun ls hl => ?_)
        refine W.widen (k := 0) (n := 0) (Nat.le_of_ble_eq_true rfl) (Nat.le_of_ble_eq_true rfl) ?_
        have lp_19 : ∀ (N : Nat) (x4_19 : Int32) (v19 : Nat → Int32) (nm19 : Int64) (f19 : Nat → Nat → Int32) (g19 : Nat → Nat → Int64) (H : Heap) (locs : List Loc) (ls : Array Slot), MIv T v19 → MIf f19 → RI v19 f19 → WL v19 f19 → (0 ≤ x4_19.toInt ∧ x4_19.toInt ≤ 12) → (12 - x4_19.toInt).toNat < N → va_P G vwCl (WMs cy mo h v19 nm19 f19 g19) H → va_D A (WMs cy mo h v19 nm19 f19 g19) → va_S A s.heap H locs → lv_has ls 6 [(4, .int x4_19), (3, .int v_17), (0, .ref mo), (1, .int n), (2, .int n2)] → W p l e (headSpec (.code yX12_song cX12_song 6 (some .int) :: TBg) ({ frames := 9, cells := 0, slots := 0, locals := 576 })).room s m ([.ref mo, .int n, .int n2] : List Value).toArray below meth c H locs 0 0 (MQ below (va_Qi (fun (r : Int32) (u : (Nat → Int32) × Int64 × (Nat → Nat → Int32) × (Nat → Nat → Int64)) => MIv T u.1 ∧ MIf u.2.2.1 ∧ RI u.1 u.2.2.1 ∧ WL u.1 u.2.2.1 ∧ (True)) (fun u t => Ex G A (WMs cy mo h u.1 u.2.1 u.2.2.1 u.2.2.2) t) A) ([.ref mo, .int n, .int n2] : List Value).toArray s 0 0 A) (F0 m 52 ls []) := by
          intro N
          induction N with
          | zero => intro x4_19 v19 nm19 f19 g19 H locs ls hv hf hR hL qf19_0 hm hP hD hS hl; exact absurd hm (Nat.not_lt_zero _)
          | succ N ih_19 =>
            intro x4_19 v19 nm19 f19 g19 H locs ls hv hf hR hL qf19_0 hm hP hD hS hl
            refine lv_iload hx hb dX12_song_52 (lv_at hl 0 rfl) ?_
            refine lv_aload_n hx hb dX12_song_54 rfl (lv_at hl 2 rfl) ?_
            refine lv_aload_n hx hb dX12_song_55 rfl (lv_at hl 2 rfl) ?_
            refine lv_iload_n hx hb dX12_song_56 rfl (lv_at hl 3 rfl) ?_
            have hFc := fr_new hS hA
            refine va_calli (va_runV (As := [.int n]) (rest := [.ref mo, .int x4_19]) ⟨hx, hb, hml, hown, ht⟩ (m_songOf l G cy _ mo h T v19 nm19 f19 g19 n  hv hf hR hL (by omega)) (cwV 1 ht (gv k_94 k_95 k_96 k_61 k_93) rfl rfl rfl (by decide +kernel) ⟨Nat.le_of_ble_eq_true rfl, Nat.le_of_ble_eq_true rfl⟩) ⟨En.blind, va_recv hK hP (ci := 12) (q0 := 0) rfl rfl, fun U hU hW => ⟨rfl, En.of hU hW hP hK hD hN⟩⟩ rfl rfl hl.1 rfl (lv_room (Nat.le_of_ble_eq_true rfl)) dX12_song_57 ⟨Nat.le_of_ble_eq_true rfl, Nat.le_of_ble_eq_true rfl⟩) hS (fun q _ h => hFc q h) hFc (fun r_u_20 u_20 t9 H locs ht9 hvm hw hB hz1 hk1 hS => ?_)
            have hP := fr_keep hP hk1
            have wu_20 := hw
            clear hFc hk1 hz1 hB hw
            have wu_20 : (0 ≤ r_u_20.toInt ∧ r_u_20.toInt ≤ 27) ∧ r_u_20.toInt = 14 * (v19 29).toInt + n.toInt := wu_20
            have hFc := fr_new hS hA
            refine va_calli (va_runV (As := [.int r_u_20]) (rest := [.int x4_19]) ⟨hx, hb, hml, hown, ht⟩ (m_many27 l G cy _ mo h T v19 nm19 f19 g19 r_u_20  hv hf hR hL (by omega)) (cwV 1 ht (gv k_63 k_64 k_65 k_61 k_62) rfl rfl rfl (by decide +kernel) ⟨Nat.le_of_ble_eq_true rfl, Nat.le_of_ble_eq_true rfl⟩) ⟨En.blind, va_recv hK hP (ci := 12) (q0 := 0) rfl rfl, fun U hU hW => ⟨rfl, En.of hU hW hP hK hD hN⟩⟩ rfl rfl hl.1 rfl (lv_room (Nat.le_of_ble_eq_true rfl)) dX12_song_60 ⟨Nat.le_of_ble_eq_true rfl, Nat.le_of_ble_eq_true rfl⟩) hS (fun q _ h => hFc q h) hFc (fun r_u_21 u_21 t9 H locs ht9 hvm hw hB hz1 hk1 hS => ?_)
            have hP := fr_keep hP hk1
            have wu_21 := hw
            clear hFc hk1 hz1 hB hw
            have wu_21 : (0 ≤ r_u_21.toInt ∧ r_u_21.toInt ≤ 12) ∧ r_u_21.toInt = ((f19 15) (Int32.toNatClampNeg r_u_20)).toInt := wu_21
            refine lv_icmp_ge (tgt := 94) hx hb dX12_song_63 (by decide) (fun c_22 => ?_) (fun c_22 => ?_)
            · have q_23 : r_u_21.toInt ≤ x4_19.toInt := (ow_le _ _).mp c_22
              refine lv_iconst (v := 0) hx hb dX12_song_94 (by decide) ?_
              refine lv_istore (lv' := [(4, .int 0), (3, .int v_17), (0, .ref mo), (1, .int n), (2, .int n2)]) hx hb dX12_song_95 hl (by decide) rfl (fun ls hl => ?_)
              refine lv_iconst (v := 0) hx hb dX12_song_97 (by decide) ?_
              refine lv_istore (lv' := [(5, .int 0), (4, .int 0), (3, .int v_17), (0, .ref mo), (1, .int n), (2, .int n2)]) hx hb dX12_song_98 hl (by decide) rfl (fun ls hl => ?_)
              refine W.widen (k := 0) (n := 0) (Nat.le_of_ble_eq_true rfl) (Nat.le_of_ble_eq_true rfl) ?_
              have lp_24 : ∀ (N : Nat) (x5_24 : Int32) (x4_24 : Int32) (v24 : Nat → Int32) (nm24 : Int64) (f24 : Nat → Nat → Int32) (g24 : Nat → Nat → Int64) (H : Heap) (locs : List Loc) (ls : Array Slot), MIv T v24 → MIf f24 → RI v24 f24 → WL v24 f24 → (0 ≤ x5_24.toInt ∧ x5_24.toInt ≤ 12) → (12 - x5_24.toInt).toNat < N → va_P G vwCl (WMs cy mo h v24 nm24 f24 g24) H → va_D A (WMs cy mo h v24 nm24 f24 g24) → va_S A s.heap H locs → lv_has ls 6 [(5, .int x5_24), (4, .int x4_24), (3, .int v_17), (0, .ref mo), (1, .int n), (2, .int n2)] → W p l e (headSpec (.code yX12_song cX12_song 6 (some .int) :: TBg) ({ frames := 9, cells := 0, slots := 0, locals := 576 })).room s m ([.ref mo, .int n, .int n2] : List Value).toArray below meth c H locs 0 0 (MQ below (va_Qi (fun (r : Int32) (u : (Nat → Int32) × Int64 × (Nat → Nat → Int32) × (Nat → Nat → Int64)) => MIv T u.1 ∧ MIf u.2.2.1 ∧ RI u.1 u.2.2.1 ∧ WL u.1 u.2.2.1 ∧ (True)) (fun u t => Ex G A (WMs cy mo h u.1 u.2.1 u.2.2.1 u.2.2.2) t) A) ([.ref mo, .int n, .int n2] : List Value).toArray s 0 0 A) (F0 m 100 ls []) := by
                intro N
                induction N with
                | zero => intro x5_24 x4_24 v24 nm24 f24 g24 H locs ls hv hf hR hL qf24_0 hm hP hD hS hl; exact absurd hm (Nat.not_lt_zero _)
                | succ N ih_24 =>
                  intro x5_24 x4_24 v24 nm24 f24 g24 H locs ls hv hf hR hL qf24_0 hm hP hD hS hl
                  refine lv_iload hx hb dX12_song_100 (lv_at hl 0 rfl) ?_
                  refine lv_aload_n hx hb dX12_song_102 rfl (lv_at hl 3 rfl) ?_
                  refine lv_aload_n hx hb dX12_song_103 rfl (lv_at hl 3 rfl) ?_
                  refine lv_iload_n hx hb dX12_song_104 rfl (lv_at hl 4 rfl) ?_
                  have hFc := fr_new hS hA
                  refine va_calli (va_runV (As := [.int n]) (rest := [.ref mo, .int x5_24]) ⟨hx, hb, hml, hown, ht⟩ (m_songOf l G cy _ mo h T v24 nm24 f24 g24 n  hv hf hR hL (by omega)) (cwV 1 ht (gv k_94 k_95 k_96 k_61 k_93) rfl rfl rfl (by decide +kernel) ⟨Nat.le_of_ble_eq_true rfl, Nat.le_of_ble_eq_true rfl⟩) ⟨En.blind, va_recv hK hP (ci := 12) (q0 := 0) rfl rfl, fun U hU hW => ⟨rfl, En.of hU hW hP hK hD hN⟩⟩ rfl rfl hl.1 rfl (lv_room (Nat.le_of_ble_eq_true rfl)) dX12_song_105 ⟨Nat.le_of_ble_eq_true rfl, Nat.le_of_ble_eq_true rfl⟩) hS (fun q _ h => hFc q h) hFc (fun r_u_25 u_25 t9 H locs ht9 hvm hw hB hz1 hk1 hS => ?_)
                  have hP := fr_keep hP hk1
                  have wu_25 := hw
                  clear hFc hk1 hz1 hB hw
                  have wu_25 : (0 ≤ r_u_25.toInt ∧ r_u_25.toInt ≤ 27) ∧ r_u_25.toInt = 14 * (v24 29).toInt + n.toInt := wu_25
                  have hFc := fr_new hS hA
                  refine va_calli (va_runV (As := [.int r_u_25]) (rest := [.int x5_24]) ⟨hx, hb, hml, hown, ht⟩ (m_many27 l G cy _ mo h T v24 nm24 f24 g24 r_u_25  hv hf hR hL (by omega)) (cwV 1 ht (gv k_63 k_64 k_65 k_61 k_62) rfl rfl rfl (by decide +kernel) ⟨Nat.le_of_ble_eq_true rfl, Nat.le_of_ble_eq_true rfl⟩) ⟨En.blind, va_recv hK hP (ci := 12) (q0 := 0) rfl rfl, fun U hU hW => ⟨rfl, En.of hU hW hP hK hD hN⟩⟩ rfl rfl hl.1 rfl (lv_room (Nat.le_of_ble_eq_true rfl)) dX12_song_108 ⟨Nat.le_of_ble_eq_true rfl, Nat.le_of_ble_eq_true rfl⟩) hS (fun q _ h => hFc q h) hFc (fun r_u_26 u_26 t9 H locs ht9 hvm hw hB hz1 hk1 hS => ?_)
                  have hP := fr_keep hP hk1
                  have wu_26 := hw
                  clear hFc hk1 hz1 hB hw
                  have wu_26 : (0 ≤ r_u_26.toInt ∧ r_u_26.toInt ≤ 12) ∧ r_u_26.toInt = ((f24 15) (Int32.toNatClampNeg r_u_25)).toInt := wu_26
                  refine lv_icmp_ge (tgt := 149) hx hb dX12_song_111 (by decide) (fun c_27 => ?_) (fun c_27 => ?_)
                  · have q_28 : r_u_26.toInt ≤ x5_24.toInt := (ow_le _ _).mp c_27
                    refine lv_iload hx hb dX12_song_149 (lv_at hl 1 rfl) ?_
                    refine W.widen (k := 0) (n := 0) (Nat.le_of_ble_eq_true rfl) (Nat.le_of_ble_eq_true rfl) ?_
                    exact W.iret (v := x4_24) hx hb hr (fun t ht9 hW => ⟨⟨x4_24, (v24, nm24, f24, g24), rfl, ⟨hv, hf, hR, hL, trivial⟩, ⟨by rw [ht9]; exact hP, hD⟩⟩, hS.F ht9⟩) hS.2.2 dX12_song_151
                  · have q_29 : x5_24.toInt < r_u_26.toInt := by have := (not_congr (ow_le _ _)).mp c_27; omega
                    refine lv_iload hx hb dX12_song_114 (lv_at hl 1 rfl) ?_
                    refine lv_aload_n hx hb dX12_song_116 rfl (lv_at hl 3 rfl) ?_
                    refine lv_aload_n hx hb dX12_song_117 rfl (lv_at hl 3 rfl) ?_
                    refine mg_16 hx hb ht hown hK hP dX12_song_118 ?_
                    refine lv_iload_n hx hb dX12_song_121 rfl (lv_at hl 2 rfl) ?_
                    refine lv_iload hx hb dX12_song_122 (lv_at hl 0 rfl) ?_
                    refine lv_iadd hx hb dX12_song_124 ?_
                    refine lv_topi (fun v_30 ev_30 => ?_)
                    have q_31 : v_30.toInt = v_17.toInt + x5_24.toInt := ow_add ev_30 (by omega) (by omega)
                    have q_32 : vp_in v_30 1200 := vp_in_iff.mpr ⟨by omega, by omega⟩
                    refine ml_16 hx hb hK hP q_32 dX12_song_125 ?_
                    refine lv_topi (fun v_33 ev_33 => ?_)
                    refine lv_iload_n hx hb dX12_song_126 rfl (lv_at hl 5 rfl) ?_
                    refine lv_iadd hx hb dX12_song_127 ?_
                    refine lv_topi (fun v_34 ev_34 => ?_)
                    refine lv_aload_n hx hb dX12_song_128 rfl (lv_at hl 3 rfl) ?_
                    refine mg_17 hx hb ht hown hK hP dX12_song_129 ?_
                    refine lv_iload_n hx hb dX12_song_132 rfl (lv_at hl 2 rfl) ?_
                    refine lv_iload hx hb dX12_song_133 (lv_at hl 0 rfl) ?_
                    refine lv_iadd hx hb dX12_song_135 ?_
                    refine lv_topi (fun v_35 ev_35 => ?_)
                    have q_36 : v_35.toInt = v_17.toInt + x5_24.toInt := ow_add ev_35 (by omega) (by omega)
                    have q_37 : vp_in v_35 1200 := vp_in_iff.mpr ⟨by omega, by omega⟩
                    refine ml_17 hx hb hK hP q_37 dX12_song_136 ?_
                    refine lv_topi (fun v_38 ev_38 => ?_)
                    have q_39 : 0 ≤ v_38.toInt ∧ v_38.toInt ≤ 9 := by rw [ev_38]; exact MIf.rd 17 hf q_37
                    have q_40 : v_38.toInt = ((f24 17) (Int32.toNatClampNeg v_35)).toInt := (congrArg Int32.toInt ev_38).trans (congrArg (fun z : Nat → Int32 => (z (Int32.toNatClampNeg v_35)).toInt) (show f24 17 = (f24 17) from rfl))
                    have hFc := fr_free hD hS hA
                    refine va_calli (va_runV (As := [.int v_34, .int v_38]) (rest := [.int x4_24]) ⟨hx, hb, hml, hown, ht⟩ (m_sing l G cy _ mo h T v24 nm24 f24 g24 v_34 v_38  hv hf hR hL) (cwV 2 ht (gv k_156 k_157 k_158 k_61 k_155) rfl rfl rfl (by decide +kernel) ⟨Nat.le_of_ble_eq_true rfl, Nat.le_of_ble_eq_true rfl⟩) ⟨En.blind, va_recv hK hP (ci := 12) (q0 := 0) rfl rfl, fun U hU hW => ⟨rfl, En.of hU hW hP hK hD hN⟩⟩ rfl rfl hl.1 rfl (lv_room (Nat.le_of_ble_eq_true rfl)) dX12_song_137 ⟨Nat.le_of_ble_eq_true rfl, Nat.le_of_ble_eq_true rfl⟩) hS (fun q _ h => hFc q h) hFc (fun r_u_41 u_41 t9 H locs ht9 hvm hw hB hz1 hk1 hS => ?_)
                    obtain ⟨v41, nm41, f41, g41⟩ := u_41
                    obtain ⟨hP1, hD1⟩ := hB
                    rw [ht9] at hP1
                    obtain ⟨hv, hf, hR, hL, wu_41⟩ := hw
                    have hP : va_P G vwCl (WMs cy mo h v41 nm41 f41 g41) H := hP1
                    have hD : va_D A (WMs cy mo h v41 nm41 f41 g41) := hD1.weaken (fun _ _ _ h => hFc _ h)
                    dsimp only at hv hf hR hL wu_41
                    clear hFc hk1 hz1 hP1 hD1
                    refine lv_ior hx hb dX12_song_140 ?_
                    refine lv_topi (fun v_42 ev_42 => ?_)
                    refine lv_istore (lv' := [(4, .int v_42), (5, .int x5_24), (3, .int v_17), (0, .ref mo), (1, .int n), (2, .int n2)]) hx hb dX12_song_141 hl (by decide) rfl (fun ls hl => ?_)
                    obtain ⟨v_43, ev_43⟩ : ∃ y : Int32, y = x5_24 + 1 := ⟨_, rfl⟩
                    refine lv_iinc (v := v_43) (lv' := [(5, .int v_43), (4, .int v_42), (3, .int v_17), (0, .ref mo), (1, .int n), (2, .int n2)]) hx hb dX12_song_143 hl (k := 1) rfl (by rw [ev_43]; rfl) (by decide) rfl (fun ls hl => ?_)
                    have q_44 : v_43.toInt = x5_24.toInt + 1 := by have := ow_add ev_43 (by omega) (by omega); omega
                    refine lv_goto (tgt := 100) hx hb dX12_song_146 (by decide) ?_
                    refine W.widen (k := 0) (n := 0) (Nat.le_of_ble_eq_true rfl) (Nat.le_of_ble_eq_true rfl) ?_
                    exact ih_24 v_43 v_42 v41 nm41 f41 g41 _ _ _ hv hf hR hL (by omega) (by omega) hP hD hS (lv_sub hl [0, 1, 2, 3, 4, 5] rfl)
              exact lp_24 _ (0) (0) v19 nm19 f19 g19 _ _ _ hv hf hR hL (by omega) (Nat.lt_succ_self _) hP hD hS (lv_sub hl [0, 1, 2, 3, 4, 5] rfl)
            · have q_45 : x4_19.toInt < r_u_21.toInt := by have := (not_congr (ow_le _ _)).mp c_22; omega
              refine lv_aload_n hx hb dX12_song_66 rfl (lv_at hl 2 rfl) ?_
              refine mg_16 hx hb ht hown hK hP dX12_song_67 ?_
              refine lv_iload_n hx hb dX12_song_70 rfl (lv_at hl 1 rfl) ?_
              refine lv_iload hx hb dX12_song_71 (lv_at hl 0 rfl) ?_
              refine lv_iadd hx hb dX12_song_73 ?_
              refine lv_topi (fun v_46 ev_46 => ?_)
              have q_47 : v_46.toInt = v_17.toInt + x4_19.toInt := ow_add ev_46 (by omega) (by omega)
              have q_48 : vp_in v_46 1200 := vp_in_iff.mpr ⟨by omega, by omega⟩
              refine ml_16 hx hb hK hP q_48 dX12_song_74 ?_
              refine lv_topi (fun v_49 ev_49 => ?_)
              refine lv_iload_n hx hb dX12_song_75 rfl (lv_at hl 4 rfl) ?_
              refine lv_iadd hx hb dX12_song_76 ?_
              refine lv_topi (fun v_50 ev_50 => ?_)
              refine lv_iconst (v := 0) hx hb dX12_song_77 (by decide) ?_
              refine lv_bipush (v := 60) hx hb dX12_song_78 (by decide) ?_
              have hFc := fr_new hS hA
              refine va_calli (va_runS (As := [.int v_50, .int 0, .int 60]) (rest := []) ⟨hx, hb, hml, hown, ht⟩ (m_isIn l G cy _  v_50 (0) (60)  ) (va_cwS 3 ht (gs k_59 k_60 k_61 k_58) rfl rfl rfl (by decide +kernel) ⟨Nat.le_of_ble_eq_true rfl, Nat.le_of_ble_eq_true rfl⟩) ⟨En.blind, fun U hU hW => ⟨rfl, En.of hU hW (va_P0 (H := _)) hK va_D0 hN⟩⟩ rfl rfl hl.1 rfl (lv_room (Nat.le_of_ble_eq_true rfl)) dX12_song_80 ⟨Nat.le_of_ble_eq_true rfl, Nat.le_of_ble_eq_true rfl⟩) hS (fun q _ h => hFc q h) hFc (fun r_u_51 u_51 t9 H locs ht9 hvm hw hB hz1 hk1 hS => ?_)
              have hP := fr_keep hP hk1
              have wu_51 := hw
              clear hFc hk1 hz1 hB hw
              refine lv_if_ne (tgt := 88) hx hb dX12_song_83 (by decide) (fun c_52 => ?_) (fun c_52 => ?_)
              · have q_53 : ¬ r_u_51.toInt = (0 : Int32).toInt := by have := (not_congr (ow_eq _ _)).mp c_52; omega
                obtain ⟨v_54, ev_54⟩ : ∃ y : Int32, y = x4_19 + 1 := ⟨_, rfl⟩
                refine lv_iinc (v := v_54) (lv' := [(4, .int v_54), (3, .int v_17), (0, .ref mo), (1, .int n), (2, .int n2)]) hx hb dX12_song_88 hl (k := 0) rfl (by rw [ev_54]; rfl) (by decide) rfl (fun ls hl => ?_)
                have q_55 : v_54.toInt = x4_19.toInt + 1 := by have := ow_add ev_54 (by omega) (by omega); omega
                refine lv_goto (tgt := 52) hx hb dX12_song_91 (by decide) ?_
                refine W.widen (k := 0) (n := 0) (Nat.le_of_ble_eq_true rfl) (Nat.le_of_ble_eq_true rfl) ?_
                exact ih_19 v_54 v19 nm19 f19 g19 _ _ _ hv hf hR hL (by omega) (by omega) hP hD hS (lv_sub hl [0, 1, 2, 3, 4] rfl)
              · have q_56 : r_u_51.toInt = (0 : Int32).toInt := (ow_eq _ _).mp c_52
                refine lv_iconst (v := (-1)) hx hb dX12_song_86 (by decide) ?_
                refine W.widen (k := 0) (n := 0) (Nat.le_of_ble_eq_true rfl) (Nat.le_of_ble_eq_true rfl) ?_
                exact W.iret (v := (-1)) hx hb hr (fun t ht9 hW => ⟨⟨(-1), (v19, nm19, f19, g19), rfl, ⟨hv, hf, hR, hL, trivial⟩, ⟨by rw [ht9]; exact hP, hD⟩⟩, hS.F ht9⟩) hS.2.2 dX12_song_87
        exact lp_19 _ (0) v nm f g _ _ _ hv hf hR hL (by omega) (Nat.lt_succ_self _) hP hD hS (lv_sub hl [0, 1, 2, 3, 4] rfl)
      · have q_57 : (40 : Int32).toInt < v_12.toInt := by have := (not_congr (ow_le _ _)).mp c_14; omega
        refine lv_iconst (v := (-1)) hx hb dX12_song_38 (by decide) ?_
        refine W.widen (k := 0) (n := 0) (Nat.le_of_ble_eq_true rfl) (Nat.le_of_ble_eq_true rfl) ?_
        exact W.iret (v := (-1)) hx hb hr (fun t ht9 hW => ⟨⟨(-1), (v, nm, f, g), rfl, ⟨hv, hf, hR, hL, trivial⟩, ⟨by rw [ht9]; exact hP, hD⟩⟩, hS.F ht9⟩) hS.2.2 dX12_song_39
