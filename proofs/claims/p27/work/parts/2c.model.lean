theorem k_102 : (Cond.code yX12_fits cX12_fits 6 (some .boolean)) ∈ TBg := tb_mem 1447 (by decide +kernel) (by decide +kernel)
theorem k_103 : (Cond.methodLink RX12 375 yX12_fits) ∈ TBg := tb_mem 1444 (by decide +kernel) (by decide +kernel)
theorem k_104 : (Cond.instanceMethod yX12_fits) ∈ TBg := tb_mem 1446 (by decide +kernel) (by decide +kernel)
theorem k_105 : (Cond.selects RX12 yX12_fits yX12_fits) ∈ TBg := tb_mem 75 (by decide +kernel) (by decide +kernel)
theorem k_106 : (Cond.code yX12_lower cX12_lower 2 (some .int)) ∈ TBg := tb_mem 1490 (by decide +kernel) (by decide +kernel)
theorem k_107 : (Cond.methodLink RX12 414 yX12_lower) ∈ TBg := tb_mem 1488 (by decide +kernel) (by decide +kernel)
theorem k_108 : (Cond.static yX12_lower) ∈ TBg := tb_mem 1489 (by decide +kernel) (by decide +kernel)
theorem k_109 : (Cond.code yX12_moved cX12_moved 5 (some .int)) ∈ TBg := tb_mem 1487 (by decide +kernel) (by decide +kernel)
theorem k_110 : (Cond.methodLink RX12 410 yX12_moved) ∈ TBg := tb_mem 1484 (by decide +kernel) (by decide +kernel)
theorem k_111 : (Cond.instanceMethod yX12_moved) ∈ TBg := tb_mem 1486 (by decide +kernel) (by decide +kernel)
theorem k_112 : (Cond.selects RX12 yX12_moved yX12_moved) ∈ TBg := tb_mem 82 (by decide +kernel) (by decide +kernel)
theorem k_113 : (Cond.code yX12_deafAt cX12_deafAt 12 (some .int)) ∈ TBg := tb_mem 1483 (by decide +kernel) (by decide +kernel)
theorem k_114 : (Cond.methodLink RX12 417 yX12_deafAt) ∈ TBg := tb_mem 1480 (by decide +kernel) (by decide +kernel)
theorem k_115 : (Cond.instanceMethod yX12_deafAt) ∈ TBg := tb_mem 1482 (by decide +kernel) (by decide +kernel)
theorem k_116 : (Cond.selects RX12 yX12_deafAt yX12_deafAt) ∈ TBg := tb_mem 81 (by decide +kernel) (by decide +kernel)
theorem k_117 : (Cond.code yX12_isLock cX12_isLock 2 (some .boolean)) ∈ TBg := tb_mem 1420 (by decide +kernel) (by decide +kernel)
theorem k_118 : (Cond.methodLink RX12 369 yX12_isLock) ∈ TBg := tb_mem 1417 (by decide +kernel) (by decide +kernel)
theorem k_119 : (Cond.instanceMethod yX12_isLock) ∈ TBg := tb_mem 1419 (by decide +kernel) (by decide +kernel)
theorem k_120 : (Cond.selects RX12 yX12_isLock yX12_isLock) ∈ TBg := tb_mem 71 (by decide +kernel) (by decide +kernel)
theorem k_121 : (Cond.code yX12_nearBy cX12_nearBy 4 (some .int)) ∈ TBg := tb_mem 1405 (by decide +kernel) (by decide +kernel)
theorem k_122 : (Cond.methodLink RX12 348 yX12_nearBy) ∈ TBg := tb_mem 1402 (by decide +kernel) (by decide +kernel)
theorem k_123 : (Cond.instanceMethod yX12_nearBy) ∈ TBg := tb_mem 1404 (by decide +kernel) (by decide +kernel)
theorem k_124 : (Cond.selects RX12 yX12_nearBy yX12_nearBy) ∈ TBg := tb_mem 69 (by decide +kernel) (by decide +kernel)
theorem dX12_lengthOf_0 : decode cX12_lengthOf 0 = .ok (.iconst 0, 1) := by decide +kernel
theorem dX12_lengthOf_1 : decode cX12_lengthOf 1 = .ok (.istore_n 2, 1) := by decide +kernel
theorem dX12_lengthOf_2 : decode cX12_lengthOf 2 = .ok (.iconst 0, 1) := by decide +kernel
theorem dX12_lengthOf_3 : decode cX12_lengthOf 3 = .ok (.istore_n 3, 1) := by decide +kernel
theorem dX12_lengthOf_4 : decode cX12_lengthOf 4 = .ok (.iload_n 3, 1) := by decide +kernel
theorem dX12_lengthOf_5 : decode cX12_lengthOf 5 = .ok (.aload_n 0, 1) := by decide +kernel
theorem dX12_lengthOf_6 : decode cX12_lengthOf 6 = .ok (.iload_n 1, 1) := by decide +kernel
theorem dX12_lengthOf_7 : decode cX12_lengthOf 7 = .ok (.invokevirtual 315, 3) := by decide +kernel
theorem dX12_lengthOf_10 : decode cX12_lengthOf 10 = .ok (.if_icmp .ge 23, 3) := by decide +kernel
theorem dX12_lengthOf_33 : decode cX12_lengthOf 33 = .ok (.iload_n 2, 1) := by decide +kernel
theorem dX12_lengthOf_34 : decode cX12_lengthOf 34 = .ok (.ireturn, 1) := by decide +kernel
theorem dX12_lengthOf_13 : decode cX12_lengthOf 13 = .ok (.iload_n 2, 1) := by decide +kernel
theorem dX12_lengthOf_14 : decode cX12_lengthOf 14 = .ok (.aload_n 0, 1) := by decide +kernel
theorem dX12_lengthOf_15 : decode cX12_lengthOf 15 = .ok (.getfield 39, 3) := by decide +kernel
theorem dX12_lengthOf_18 : decode cX12_lengthOf 18 = .ok (.bipush 40, 2) := by decide +kernel
theorem dX12_lengthOf_20 : decode cX12_lengthOf 20 = .ok (.iload_n 1, 1) := by decide +kernel
theorem dX12_lengthOf_21 : decode cX12_lengthOf 21 = .ok (.imul, 1) := by decide +kernel
theorem dX12_lengthOf_22 : decode cX12_lengthOf 22 = .ok (.iload_n 3, 1) := by decide +kernel
theorem dX12_lengthOf_23 : decode cX12_lengthOf 23 = .ok (.iadd, 1) := by decide +kernel
theorem dX12_lengthOf_24 : decode cX12_lengthOf 24 = .ok (.iaload, 1) := by decide +kernel
theorem dX12_lengthOf_25 : decode cX12_lengthOf 25 = .ok (.iadd, 1) := by decide +kernel
theorem dX12_lengthOf_26 : decode cX12_lengthOf 26 = .ok (.istore_n 2, 1) := by decide +kernel
theorem dX12_lengthOf_27 : decode cX12_lengthOf 27 = .ok (.iinc 3 1, 3) := by decide +kernel
theorem dX12_lengthOf_30 : decode cX12_lengthOf 30 = .ok (.goto (-26), 3) := by decide +kernel
theorem dX12_fits_0 : decode cX12_fits 0 = .ok (.aload_n 0, 1) := by decide +kernel
theorem dX12_fits_1 : decode cX12_fits 1 = .ok (.iload_n 1, 1) := by decide +kernel
theorem dX12_fits_2 : decode cX12_fits 2 = .ok (.invokevirtual 315, 3) := by decide +kernel
theorem dX12_fits_5 : decode cX12_fits 5 = .ok (.iload_n 3, 1) := by decide +kernel
theorem dX12_fits_6 : decode cX12_fits 6 = .ok (.isub, 1) := by decide +kernel
theorem dX12_fits_7 : decode cX12_fits 7 = .ok (.istore 4, 2) := by decide +kernel
theorem dX12_fits_9 : decode cX12_fits 9 = .ok (.iconst 0, 1) := by decide +kernel
theorem dX12_fits_10 : decode cX12_fits 10 = .ok (.istore 5, 2) := by decide +kernel
theorem dX12_fits_12 : decode cX12_fits 12 = .ok (.iload 5, 2) := by decide +kernel
theorem dX12_fits_14 : decode cX12_fits 14 = .ok (.iload_n 3, 1) := by decide +kernel
theorem dX12_fits_15 : decode cX12_fits 15 = .ok (.if_icmp .ge 94, 3) := by decide +kernel
theorem dX12_fits_109 : decode cX12_fits 109 = .ok (.iconst 1, 1) := by decide +kernel
theorem dX12_fits_110 : decode cX12_fits 110 = .ok (.ireturn, 1) := by decide +kernel
theorem dX12_fits_18 : decode cX12_fits 18 = .ok (.aload_n 0, 1) := by decide +kernel
theorem dX12_fits_19 : decode cX12_fits 19 = .ok (.getfield 39, 3) := by decide +kernel
theorem dX12_fits_22 : decode cX12_fits 22 = .ok (.bipush 40, 2) := by decide +kernel
theorem dX12_fits_24 : decode cX12_fits 24 = .ok (.iload_n 1, 1) := by decide +kernel
theorem dX12_fits_25 : decode cX12_fits 25 = .ok (.imul, 1) := by decide +kernel
theorem dX12_fits_26 : decode cX12_fits 26 = .ok (.iload 4, 2) := by decide +kernel
theorem dX12_fits_28 : decode cX12_fits 28 = .ok (.iadd, 1) := by decide +kernel
theorem dX12_fits_29 : decode cX12_fits 29 = .ok (.iload 5, 2) := by decide +kernel
theorem dX12_fits_31 : decode cX12_fits 31 = .ok (.iadd, 1) := by decide +kernel
theorem dX12_fits_32 : decode cX12_fits 32 = .ok (.iaload, 1) := by decide +kernel
theorem dX12_fits_33 : decode cX12_fits 33 = .ok (.aload_n 0, 1) := by decide +kernel
theorem dX12_fits_34 : decode cX12_fits 34 = .ok (.getfield 39, 3) := by decide +kernel
theorem dX12_fits_37 : decode cX12_fits 37 = .ok (.bipush 40, 2) := by decide +kernel
theorem dX12_fits_39 : decode cX12_fits 39 = .ok (.iload_n 2, 1) := by decide +kernel
theorem dX12_fits_40 : decode cX12_fits 40 = .ok (.imul, 1) := by decide +kernel
theorem dX12_fits_41 : decode cX12_fits 41 = .ok (.iaload, 1) := by decide +kernel
theorem dX12_fits_42 : decode cX12_fits 42 = .ok (.imul, 1) := by decide +kernel
theorem dX12_fits_43 : decode cX12_fits 43 = .ok (.aload_n 0, 1) := by decide +kernel
theorem dX12_fits_44 : decode cX12_fits 44 = .ok (.getfield 39, 3) := by decide +kernel
theorem dX12_fits_47 : decode cX12_fits 47 = .ok (.bipush 40, 2) := by decide +kernel
theorem dX12_fits_49 : decode cX12_fits 49 = .ok (.iload_n 1, 1) := by decide +kernel
theorem dX12_fits_50 : decode cX12_fits 50 = .ok (.imul, 1) := by decide +kernel
theorem dX12_fits_51 : decode cX12_fits 51 = .ok (.iload 4, 2) := by decide +kernel
theorem dX12_fits_53 : decode cX12_fits 53 = .ok (.iadd, 1) := by decide +kernel
theorem dX12_fits_54 : decode cX12_fits 54 = .ok (.iaload, 1) := by decide +kernel
theorem dX12_fits_55 : decode cX12_fits 55 = .ok (.aload_n 0, 1) := by decide +kernel
theorem dX12_fits_56 : decode cX12_fits 56 = .ok (.getfield 39, 3) := by decide +kernel
theorem dX12_fits_59 : decode cX12_fits 59 = .ok (.bipush 40, 2) := by decide +kernel
theorem dX12_fits_61 : decode cX12_fits 61 = .ok (.iload_n 2, 1) := by decide +kernel
theorem dX12_fits_62 : decode cX12_fits 62 = .ok (.imul, 1) := by decide +kernel
theorem dX12_fits_63 : decode cX12_fits 63 = .ok (.iload 5, 2) := by decide +kernel
theorem dX12_fits_65 : decode cX12_fits 65 = .ok (.iadd, 1) := by decide +kernel
theorem dX12_fits_66 : decode cX12_fits 66 = .ok (.iaload, 1) := by decide +kernel
theorem dX12_fits_67 : decode cX12_fits 67 = .ok (.imul, 1) := by decide +kernel
theorem dX12_fits_68 : decode cX12_fits 68 = .ok (.if_icmp .eq 5, 3) := by decide +kernel
theorem dX12_fits_73 : decode cX12_fits 73 = .ok (.iload 5, 2) := by decide +kernel
theorem dX12_fits_75 : decode cX12_fits 75 = .ok (.iconst 1, 1) := by decide +kernel
theorem dX12_fits_76 : decode cX12_fits 76 = .ok (.iadd, 1) := by decide +kernel
theorem dX12_fits_77 : decode cX12_fits 77 = .ok (.iload_n 3, 1) := by decide +kernel
theorem dX12_fits_78 : decode cX12_fits 78 = .ok (.if_icmp .ge 25, 3) := by decide +kernel
theorem dX12_fits_103 : decode cX12_fits 103 = .ok (.iinc 5 1, 3) := by decide +kernel
theorem dX12_fits_106 : decode cX12_fits 106 = .ok (.goto (-94), 3) := by decide +kernel
theorem dX12_fits_81 : decode cX12_fits 81 = .ok (.aload_n 0, 1) := by decide +kernel
theorem dX12_fits_82 : decode cX12_fits 82 = .ok (.iload_n 1, 1) := by decide +kernel
theorem dX12_fits_83 : decode cX12_fits 83 = .ok (.iload 4, 2) := by decide +kernel
theorem dX12_fits_85 : decode cX12_fits 85 = .ok (.iload 5, 2) := by decide +kernel
theorem dX12_fits_87 : decode cX12_fits 87 = .ok (.iadd, 1) := by decide +kernel
theorem dX12_fits_88 : decode cX12_fits 88 = .ok (.invokevirtual 322, 3) := by decide +kernel
theorem dX12_fits_91 : decode cX12_fits 91 = .ok (.aload_n 0, 1) := by decide +kernel
theorem dX12_fits_92 : decode cX12_fits 92 = .ok (.iload_n 2, 1) := by decide +kernel
theorem dX12_fits_93 : decode cX12_fits 93 = .ok (.iload 5, 2) := by decide +kernel
theorem dX12_fits_95 : decode cX12_fits 95 = .ok (.invokevirtual 322, 3) := by decide +kernel
theorem dX12_fits_98 : decode cX12_fits 98 = .ok (.if_icmp .eq 5, 3) := by decide +kernel
theorem dX12_fits_101 : decode cX12_fits 101 = .ok (.iconst 0, 1) := by decide +kernel
theorem dX12_fits_102 : decode cX12_fits 102 = .ok (.ireturn, 1) := by decide +kernel
theorem dX12_fits_71 : decode cX12_fits 71 = .ok (.iconst 0, 1) := by decide +kernel
theorem dX12_fits_72 : decode cX12_fits 72 = .ok (.ireturn, 1) := by decide +kernel
theorem dX12_overlap_0 : decode cX12_overlap 0 = .ok (.aload_n 0, 1) := by decide +kernel
theorem dX12_overlap_1 : decode cX12_overlap 1 = .ok (.iload_n 1, 1) := by decide +kernel
theorem dX12_overlap_2 : decode cX12_overlap 2 = .ok (.invokevirtual 341, 3) := by decide +kernel
theorem dX12_overlap_5 : decode cX12_overlap 5 = .ok (.istore_n 3, 1) := by decide +kernel
theorem dX12_overlap_6 : decode cX12_overlap 6 = .ok (.aload_n 0, 1) := by decide +kernel
theorem dX12_overlap_7 : decode cX12_overlap 7 = .ok (.iload_n 2, 1) := by decide +kernel
theorem dX12_overlap_8 : decode cX12_overlap 8 = .ok (.invokevirtual 341, 3) := by decide +kernel
theorem dX12_overlap_11 : decode cX12_overlap 11 = .ok (.istore 4, 2) := by decide +kernel
theorem dX12_overlap_13 : decode cX12_overlap 13 = .ok (.aload_n 0, 1) := by decide +kernel
theorem dX12_overlap_14 : decode cX12_overlap 14 = .ok (.iload_n 3, 1) := by decide +kernel
theorem dX12_overlap_15 : decode cX12_overlap 15 = .ok (.invokevirtual 315, 3) := by decide +kernel
theorem dX12_overlap_18 : decode cX12_overlap 18 = .ok (.aload_n 0, 1) := by decide +kernel
theorem dX12_overlap_19 : decode cX12_overlap 19 = .ok (.iload 4, 2) := by decide +kernel
theorem dX12_overlap_21 : decode cX12_overlap 21 = .ok (.invokevirtual 315, 3) := by decide +kernel
theorem dX12_overlap_24 : decode cX12_overlap 24 = .ok (.if_icmp .ge 13, 3) := by decide +kernel
theorem dX12_overlap_37 : decode cX12_overlap 37 = .ok (.aload_n 0, 1) := by decide +kernel
theorem dX12_overlap_38 : decode cX12_overlap 38 = .ok (.iload 4, 2) := by decide +kernel
theorem dX12_overlap_40 : decode cX12_overlap 40 = .ok (.invokevirtual 315, 3) := by decide +kernel
theorem dX12_overlap_43 : decode cX12_overlap 43 = .ok (.iconst 1, 1) := by decide +kernel
theorem dX12_overlap_44 : decode cX12_overlap 44 = .ok (.isub, 1) := by decide +kernel
theorem dX12_overlap_45 : decode cX12_overlap 45 = .ok (.istore 5, 2) := by decide +kernel
theorem dX12_overlap_47 : decode cX12_overlap 47 = .ok (.iload 5, 2) := by decide +kernel
theorem dX12_overlap_49 : decode cX12_overlap 49 = .ok (.iconst 1, 1) := by decide +kernel
theorem dX12_overlap_50 : decode cX12_overlap 50 = .ok (.if_icmp .le 21, 3) := by decide +kernel
theorem dX12_overlap_71 : decode cX12_overlap 71 = .ok (.iload 5, 2) := by decide +kernel
theorem dX12_overlap_73 : decode cX12_overlap 73 = .ok (.ireturn, 1) := by decide +kernel
theorem dX12_overlap_53 : decode cX12_overlap 53 = .ok (.aload_n 0, 1) := by decide +kernel
theorem dX12_overlap_54 : decode cX12_overlap 54 = .ok (.iload_n 3, 1) := by decide +kernel
theorem dX12_overlap_55 : decode cX12_overlap 55 = .ok (.iload 4, 2) := by decide +kernel
theorem dX12_overlap_57 : decode cX12_overlap 57 = .ok (.iload 5, 2) := by decide +kernel
theorem dX12_overlap_59 : decode cX12_overlap 59 = .ok (.invokevirtual 375, 3) := by decide +kernel
theorem dX12_overlap_62 : decode cX12_overlap 62 = .ok (.ifCond .ne 9, 3) := by decide +kernel
theorem dX12_overlap_65 : decode cX12_overlap 65 = .ok (.iinc 5 (-1), 3) := by decide +kernel
theorem dX12_overlap_68 : decode cX12_overlap 68 = .ok (.goto (-21), 3) := by decide +kernel
theorem dX12_overlap_27 : decode cX12_overlap 27 = .ok (.aload_n 0, 1) := by decide +kernel
theorem dX12_overlap_28 : decode cX12_overlap 28 = .ok (.iload_n 3, 1) := by decide +kernel
theorem dX12_overlap_29 : decode cX12_overlap 29 = .ok (.invokevirtual 315, 3) := by decide +kernel
theorem dX12_overlap_32 : decode cX12_overlap 32 = .ok (.iconst 1, 1) := by decide +kernel
theorem dX12_overlap_33 : decode cX12_overlap 33 = .ok (.isub, 1) := by decide +kernel
theorem dX12_overlap_34 : decode cX12_overlap 34 = .ok (.goto 11, 3) := by decide +kernel
theorem dX12_nearBy_0 : decode cX12_nearBy 0 = .ok (.aload_n 0, 1) := by decide +kernel
theorem dX12_nearBy_1 : decode cX12_nearBy 1 = .ok (.getfield 42, 3) := by decide +kernel
theorem dX12_nearBy_4 : decode cX12_nearBy 4 = .ok (.bipush 8, 2) := by decide +kernel
theorem dX12_nearBy_6 : decode cX12_nearBy 6 = .ok (.aload_n 0, 1) := by decide +kernel
theorem dX12_nearBy_7 : decode cX12_nearBy 7 = .ok (.getfield 227, 3) := by decide +kernel
theorem dX12_nearBy_10 : decode cX12_nearBy 10 = .ok (.imul, 1) := by decide +kernel
theorem dX12_nearBy_11 : decode cX12_nearBy 11 = .ok (.iload_n 1, 1) := by decide +kernel
theorem dX12_nearBy_12 : decode cX12_nearBy 12 = .ok (.iadd, 1) := by decide +kernel
theorem dX12_nearBy_13 : decode cX12_nearBy 13 = .ok (.iaload, 1) := by decide +kernel
theorem dX12_nearBy_14 : decode cX12_nearBy 14 = .ok (.iload_n 2, 1) := by decide +kernel
theorem dX12_nearBy_15 : decode cX12_nearBy 15 = .ok (.iconst 3, 1) := by decide +kernel
theorem dX12_nearBy_16 : decode cX12_nearBy 16 = .ok (.idiv, 1) := by decide +kernel
theorem dX12_nearBy_17 : decode cX12_nearBy 17 = .ok (.iadd, 1) := by decide +kernel
theorem dX12_nearBy_18 : decode cX12_nearBy 18 = .ok (.istore_n 3, 1) := by decide +kernel
theorem dX12_nearBy_19 : decode cX12_nearBy 19 = .ok (.iload_n 3, 1) := by decide +kernel
theorem dX12_nearBy_20 : decode cX12_nearBy 20 = .ok (.bipush 20, 2) := by decide +kernel
theorem dX12_nearBy_22 : decode cX12_nearBy 22 = .ok (.if_icmp .le 8, 3) := by decide +kernel
theorem dX12_nearBy_30 : decode cX12_nearBy 30 = .ok (.iload_n 3, 1) := by decide +kernel
theorem dX12_nearBy_31 : decode cX12_nearBy 31 = .ok (.ireturn, 1) := by decide +kernel
theorem dX12_nearBy_25 : decode cX12_nearBy 25 = .ok (.bipush 20, 2) := by decide +kernel
theorem dX12_nearBy_27 : decode cX12_nearBy 27 = .ok (.goto 4, 3) := by decide +kernel
theorem dX12_moved_0 : decode cX12_moved 0 = .ok (.aload_n 0, 1) := by decide +kernel
theorem dX12_moved_1 : decode cX12_moved 1 = .ok (.getfield 36, 3) := by decide +kernel
theorem dX12_moved_4 : decode cX12_moved 4 = .ok (.bipush 40, 2) := by decide +kernel
theorem dX12_moved_6 : decode cX12_moved 6 = .ok (.iload_n 1, 1) := by decide +kernel
theorem dX12_moved_7 : decode cX12_moved 7 = .ok (.imul, 1) := by decide +kernel
theorem dX12_moved_8 : decode cX12_moved 8 = .ok (.iload_n 2, 1) := by decide +kernel
theorem dX12_moved_9 : decode cX12_moved 9 = .ok (.iadd, 1) := by decide +kernel
theorem dX12_moved_10 : decode cX12_moved 10 = .ok (.iaload, 1) := by decide +kernel
theorem dX12_moved_11 : decode cX12_moved 11 = .ok (.bipush 12, 2) := by decide +kernel
theorem dX12_moved_13 : decode cX12_moved 13 = .ok (.irem, 1) := by decide +kernel
theorem dX12_moved_14 : decode cX12_moved 14 = .ok (.iload 4, 2) := by decide +kernel
theorem dX12_moved_16 : decode cX12_moved 16 = .ok (.if_icmp .eq 7, 3) := by decide +kernel
theorem dX12_moved_23 : decode cX12_moved 23 = .ok (.iload_n 3, 1) := by decide +kernel
theorem dX12_moved_24 : decode cX12_moved 24 = .ok (.ifCond .ne 7, 3) := by decide +kernel
theorem dX12_moved_31 : decode cX12_moved 31 = .ok (.iconst 1, 1) := by decide +kernel
theorem dX12_moved_32 : decode cX12_moved 32 = .ok (.ireturn, 1) := by decide +kernel
theorem dX12_moved_27 : decode cX12_moved 27 = .ok (.iconst (-1), 1) := by decide +kernel
theorem dX12_moved_28 : decode cX12_moved 28 = .ok (.goto 4, 3) := by decide +kernel
theorem dX12_moved_19 : decode cX12_moved 19 = .ok (.iconst 0, 1) := by decide +kernel
theorem dX12_moved_20 : decode cX12_moved 20 = .ok (.goto 12, 3) := by decide +kernel
theorem dX12_deafAt_0 : decode cX12_deafAt 0 = .ok (.iconst 0, 1) := by decide +kernel
theorem dX12_deafAt_1 : decode cX12_deafAt 1 = .ok (.istore 5, 2) := by decide +kernel
theorem dX12_deafAt_3 : decode cX12_deafAt 3 = .ok (.iconst 0, 1) := by decide +kernel
theorem dX12_deafAt_4 : decode cX12_deafAt 4 = .ok (.istore 6, 2) := by decide +kernel
theorem dX12_deafAt_6 : decode cX12_deafAt 6 = .ok (.iconst 0, 1) := by decide +kernel
theorem dX12_deafAt_7 : decode cX12_deafAt 7 = .ok (.istore 7, 2) := by decide +kernel
theorem dX12_deafAt_9 : decode cX12_deafAt 9 = .ok (.iload 7, 2) := by decide +kernel
theorem dX12_deafAt_11 : decode cX12_deafAt 11 = .ok (.aload_n 0, 1) := by decide +kernel
theorem dX12_deafAt_12 : decode cX12_deafAt 12 = .ok (.iload_n 1, 1) := by decide +kernel
theorem dX12_deafAt_13 : decode cX12_deafAt 13 = .ok (.invokevirtual 315, 3) := by decide +kernel
theorem dX12_deafAt_16 : decode cX12_deafAt 16 = .ok (.if_icmp .ge 232, 3) := by decide +kernel
theorem dX12_deafAt_248 : decode cX12_deafAt 248 = .ok (.iload 5, 2) := by decide +kernel
theorem dX12_deafAt_250 : decode cX12_deafAt 250 = .ok (.iload 6, 2) := by decide +kernel
theorem dX12_deafAt_252 : decode cX12_deafAt 252 = .ok (.invokestatic 414, 3) := by decide +kernel
theorem dX12_deafAt_255 : decode cX12_deafAt 255 = .ok (.ireturn, 1) := by decide +kernel
theorem dX12_deafAt_19 : decode cX12_deafAt 19 = .ok (.aload_n 0, 1) := by decide +kernel
theorem dX12_deafAt_20 : decode cX12_deafAt 20 = .ok (.iload_n 1, 1) := by decide +kernel
theorem dX12_deafAt_21 : decode cX12_deafAt 21 = .ok (.iload_n 2, 1) := by decide +kernel
theorem dX12_deafAt_22 : decode cX12_deafAt 22 = .ok (.iload_n 3, 1) := by decide +kernel
theorem dX12_deafAt_23 : decode cX12_deafAt 23 = .ok (.iload 7, 2) := by decide +kernel
theorem dX12_deafAt_25 : decode cX12_deafAt 25 = .ok (.invokevirtual 318, 3) := by decide +kernel
theorem dX12_deafAt_28 : decode cX12_deafAt 28 = .ok (.ifCond .eq 7, 3) := by decide +kernel
theorem dX12_deafAt_35 : decode cX12_deafAt 35 = .ok (.iconst 0, 1) := by decide +kernel
theorem dX12_deafAt_36 : decode cX12_deafAt 36 = .ok (.istore 8, 2) := by decide +kernel
theorem dX12_deafAt_38 : decode cX12_deafAt 38 = .ok (.iload 8, 2) := by decide +kernel
theorem dX12_deafAt_40 : decode cX12_deafAt 40 = .ok (.istore 9, 2) := by decide +kernel
theorem dX12_deafAt_42 : decode cX12_deafAt 42 = .ok (.iload 8, 2) := by decide +kernel
theorem dX12_deafAt_44 : decode cX12_deafAt 44 = .ok (.istore 10, 2) := by decide +kernel
theorem dX12_deafAt_46 : decode cX12_deafAt 46 = .ok (.iload 7, 2) := by decide +kernel
theorem dX12_deafAt_48 : decode cX12_deafAt 48 = .ok (.ifCond .le 186, 3) := by decide +kernel
theorem dX12_deafAt_234 : decode cX12_deafAt 234 = .ok (.iload 9, 2) := by decide +kernel
theorem dX12_deafAt_236 : decode cX12_deafAt 236 = .ok (.istore 5, 2) := by decide +kernel
theorem dX12_deafAt_238 : decode cX12_deafAt 238 = .ok (.iload 10, 2) := by decide +kernel
theorem dX12_deafAt_240 : decode cX12_deafAt 240 = .ok (.istore 6, 2) := by decide +kernel
theorem dX12_deafAt_242 : decode cX12_deafAt 242 = .ok (.iinc 7 1, 3) := by decide +kernel
theorem dX12_deafAt_245 : decode cX12_deafAt 245 = .ok (.goto (-236), 3) := by decide +kernel
theorem dX12_deafAt_51 : decode cX12_deafAt 51 = .ok (.aload_n 0, 1) := by decide +kernel
theorem dX12_deafAt_52 : decode cX12_deafAt 52 = .ok (.iload_n 2, 1) := by decide +kernel
theorem dX12_deafAt_53 : decode cX12_deafAt 53 = .ok (.iload_n 3, 1) := by decide +kernel
theorem dX12_deafAt_54 : decode cX12_deafAt 54 = .ok (.iload 7, 2) := by decide +kernel
theorem dX12_deafAt_56 : decode cX12_deafAt 56 = .ok (.iadd, 1) := by decide +kernel
theorem dX12_deafAt_57 : decode cX12_deafAt 57 = .ok (.iconst 1, 1) := by decide +kernel
theorem dX12_deafAt_58 : decode cX12_deafAt 58 = .ok (.isub, 1) := by decide +kernel
theorem dX12_deafAt_59 : decode cX12_deafAt 59 = .ok (.invokevirtual 322, 3) := by decide +kernel
theorem dX12_deafAt_62 : decode cX12_deafAt 62 = .ok (.aload_n 0, 1) := by decide +kernel
theorem dX12_deafAt_63 : decode cX12_deafAt 63 = .ok (.iload_n 1, 1) := by decide +kernel
theorem dX12_deafAt_64 : decode cX12_deafAt 64 = .ok (.iload 7, 2) := by decide +kernel
theorem dX12_deafAt_66 : decode cX12_deafAt 66 = .ok (.iconst 1, 1) := by decide +kernel
theorem dX12_deafAt_67 : decode cX12_deafAt 67 = .ok (.isub, 1) := by decide +kernel
theorem dX12_deafAt_68 : decode cX12_deafAt 68 = .ok (.invokevirtual 322, 3) := by decide +kernel
theorem dX12_deafAt_71 : decode cX12_deafAt 71 = .ok (.isub, 1) := by decide +kernel
theorem dX12_deafAt_72 : decode cX12_deafAt 72 = .ok (.istore 11, 2) := by decide +kernel
theorem dX12_deafAt_74 : decode cX12_deafAt 74 = .ok (.iload 9, 2) := by decide +kernel
theorem dX12_deafAt_76 : decode cX12_deafAt 76 = .ok (.iload 5, 2) := by decide +kernel
theorem dX12_deafAt_78 : decode cX12_deafAt 78 = .ok (.iload 11, 2) := by decide +kernel
theorem dX12_deafAt_80 : decode cX12_deafAt 80 = .ok (.aload_n 0, 1) := by decide +kernel
theorem dX12_deafAt_81 : decode cX12_deafAt 81 = .ok (.iload_n 2, 1) := by decide +kernel
theorem dX12_deafAt_82 : decode cX12_deafAt 82 = .ok (.iload_n 3, 1) := by decide +kernel
theorem dX12_deafAt_83 : decode cX12_deafAt 83 = .ok (.iload 7, 2) := by decide +kernel
theorem dX12_deafAt_85 : decode cX12_deafAt 85 = .ok (.iadd, 1) := by decide +kernel
theorem dX12_deafAt_86 : decode cX12_deafAt 86 = .ok (.iconst 0, 1) := by decide +kernel
theorem dX12_deafAt_87 : decode cX12_deafAt 87 = .ok (.iload 4, 2) := by decide +kernel
theorem dX12_deafAt_89 : decode cX12_deafAt 89 = .ok (.invokevirtual 410, 3) := by decide +kernel
theorem dX12_deafAt_92 : decode cX12_deafAt 92 = .ok (.iadd, 1) := by decide +kernel
theorem dX12_deafAt_93 : decode cX12_deafAt 93 = .ok (.aload_n 0, 1) := by decide +kernel
theorem dX12_deafAt_94 : decode cX12_deafAt 94 = .ok (.iload_n 2, 1) := by decide +kernel
theorem dX12_deafAt_95 : decode cX12_deafAt 95 = .ok (.iload_n 3, 1) := by decide +kernel
theorem dX12_deafAt_96 : decode cX12_deafAt 96 = .ok (.iload 7, 2) := by decide +kernel
theorem dX12_deafAt_98 : decode cX12_deafAt 98 = .ok (.iadd, 1) := by decide +kernel
theorem dX12_deafAt_99 : decode cX12_deafAt 99 = .ok (.iconst 1, 1) := by decide +kernel
theorem dX12_deafAt_100 : decode cX12_deafAt 100 = .ok (.isub, 1) := by decide +kernel
theorem dX12_deafAt_101 : decode cX12_deafAt 101 = .ok (.iconst 0, 1) := by decide +kernel
theorem dX12_deafAt_102 : decode cX12_deafAt 102 = .ok (.iload 4, 2) := by decide +kernel
theorem dX12_deafAt_104 : decode cX12_deafAt 104 = .ok (.invokevirtual 410, 3) := by decide +kernel
theorem dX12_deafAt_107 : decode cX12_deafAt 107 = .ok (.isub, 1) := by decide +kernel
theorem dX12_deafAt_108 : decode cX12_deafAt 108 = .ok (.invokestatic 325, 3) := by decide +kernel
theorem dX12_deafAt_111 : decode cX12_deafAt 111 = .ok (.iadd, 1) := by decide +kernel
theorem dX12_deafAt_112 : decode cX12_deafAt 112 = .ok (.iload 6, 2) := by decide +kernel
theorem dX12_deafAt_114 : decode cX12_deafAt 114 = .ok (.iload 11, 2) := by decide +kernel
theorem dX12_deafAt_116 : decode cX12_deafAt 116 = .ok (.aload_n 0, 1) := by decide +kernel
theorem dX12_deafAt_117 : decode cX12_deafAt 117 = .ok (.iload_n 2, 1) := by decide +kernel
theorem dX12_deafAt_118 : decode cX12_deafAt 118 = .ok (.iload_n 3, 1) := by decide +kernel
theorem dX12_deafAt_119 : decode cX12_deafAt 119 = .ok (.iload 7, 2) := by decide +kernel
theorem dX12_deafAt_121 : decode cX12_deafAt 121 = .ok (.iadd, 1) := by decide +kernel
theorem dX12_deafAt_122 : decode cX12_deafAt 122 = .ok (.iconst 0, 1) := by decide +kernel
theorem dX12_deafAt_123 : decode cX12_deafAt 123 = .ok (.iload 4, 2) := by decide +kernel
theorem dX12_deafAt_125 : decode cX12_deafAt 125 = .ok (.invokevirtual 410, 3) := by decide +kernel
theorem dX12_deafAt_128 : decode cX12_deafAt 128 = .ok (.iadd, 1) := by decide +kernel
theorem dX12_deafAt_129 : decode cX12_deafAt 129 = .ok (.aload_n 0, 1) := by decide +kernel
theorem dX12_deafAt_130 : decode cX12_deafAt 130 = .ok (.iload_n 2, 1) := by decide +kernel
theorem dX12_deafAt_131 : decode cX12_deafAt 131 = .ok (.iload_n 3, 1) := by decide +kernel
theorem dX12_deafAt_132 : decode cX12_deafAt 132 = .ok (.iload 7, 2) := by decide +kernel
theorem dX12_deafAt_134 : decode cX12_deafAt 134 = .ok (.iadd, 1) := by decide +kernel
theorem dX12_deafAt_135 : decode cX12_deafAt 135 = .ok (.iconst 1, 1) := by decide +kernel
theorem dX12_deafAt_136 : decode cX12_deafAt 136 = .ok (.isub, 1) := by decide +kernel
theorem dX12_deafAt_137 : decode cX12_deafAt 137 = .ok (.iconst 1, 1) := by decide +kernel
theorem dX12_deafAt_138 : decode cX12_deafAt 138 = .ok (.iload 4, 2) := by decide +kernel
theorem dX12_deafAt_140 : decode cX12_deafAt 140 = .ok (.invokevirtual 410, 3) := by decide +kernel
theorem dX12_deafAt_143 : decode cX12_deafAt 143 = .ok (.isub, 1) := by decide +kernel
theorem dX12_deafAt_144 : decode cX12_deafAt 144 = .ok (.invokestatic 325, 3) := by decide +kernel
theorem dX12_deafAt_147 : decode cX12_deafAt 147 = .ok (.iadd, 1) := by decide +kernel
theorem dX12_deafAt_148 : decode cX12_deafAt 148 = .ok (.invokestatic 414, 3) := by decide +kernel
theorem dX12_deafAt_151 : decode cX12_deafAt 151 = .ok (.iadd, 1) := by decide +kernel
theorem dX12_deafAt_152 : decode cX12_deafAt 152 = .ok (.istore 9, 2) := by decide +kernel
theorem dX12_deafAt_154 : decode cX12_deafAt 154 = .ok (.iload 10, 2) := by decide +kernel
theorem dX12_deafAt_156 : decode cX12_deafAt 156 = .ok (.iload 5, 2) := by decide +kernel
theorem dX12_deafAt_158 : decode cX12_deafAt 158 = .ok (.iload 11, 2) := by decide +kernel
theorem dX12_deafAt_160 : decode cX12_deafAt 160 = .ok (.aload_n 0, 1) := by decide +kernel
theorem dX12_deafAt_161 : decode cX12_deafAt 161 = .ok (.iload_n 2, 1) := by decide +kernel
theorem dX12_deafAt_162 : decode cX12_deafAt 162 = .ok (.iload_n 3, 1) := by decide +kernel
theorem dX12_deafAt_163 : decode cX12_deafAt 163 = .ok (.iload 7, 2) := by decide +kernel
theorem dX12_deafAt_165 : decode cX12_deafAt 165 = .ok (.iadd, 1) := by decide +kernel
theorem dX12_deafAt_166 : decode cX12_deafAt 166 = .ok (.iconst 1, 1) := by decide +kernel
theorem dX12_deafAt_167 : decode cX12_deafAt 167 = .ok (.iload 4, 2) := by decide +kernel
theorem dX12_deafAt_169 : decode cX12_deafAt 169 = .ok (.invokevirtual 410, 3) := by decide +kernel
theorem dX12_deafAt_172 : decode cX12_deafAt 172 = .ok (.iadd, 1) := by decide +kernel
theorem dX12_deafAt_173 : decode cX12_deafAt 173 = .ok (.aload_n 0, 1) := by decide +kernel
theorem dX12_deafAt_174 : decode cX12_deafAt 174 = .ok (.iload_n 2, 1) := by decide +kernel
theorem dX12_deafAt_175 : decode cX12_deafAt 175 = .ok (.iload_n 3, 1) := by decide +kernel
theorem dX12_deafAt_176 : decode cX12_deafAt 176 = .ok (.iload 7, 2) := by decide +kernel
theorem dX12_deafAt_178 : decode cX12_deafAt 178 = .ok (.iadd, 1) := by decide +kernel
theorem dX12_deafAt_179 : decode cX12_deafAt 179 = .ok (.iconst 1, 1) := by decide +kernel
theorem dX12_deafAt_180 : decode cX12_deafAt 180 = .ok (.isub, 1) := by decide +kernel
theorem dX12_deafAt_181 : decode cX12_deafAt 181 = .ok (.iconst 0, 1) := by decide +kernel
theorem dX12_deafAt_182 : decode cX12_deafAt 182 = .ok (.iload 4, 2) := by decide +kernel
theorem dX12_deafAt_184 : decode cX12_deafAt 184 = .ok (.invokevirtual 410, 3) := by decide +kernel
theorem dX12_deafAt_187 : decode cX12_deafAt 187 = .ok (.isub, 1) := by decide +kernel
theorem dX12_deafAt_188 : decode cX12_deafAt 188 = .ok (.invokestatic 325, 3) := by decide +kernel
theorem dX12_deafAt_191 : decode cX12_deafAt 191 = .ok (.iadd, 1) := by decide +kernel
theorem dX12_deafAt_192 : decode cX12_deafAt 192 = .ok (.iload 6, 2) := by decide +kernel
theorem dX12_deafAt_194 : decode cX12_deafAt 194 = .ok (.iload 11, 2) := by decide +kernel
theorem dX12_deafAt_196 : decode cX12_deafAt 196 = .ok (.aload_n 0, 1) := by decide +kernel
theorem dX12_deafAt_197 : decode cX12_deafAt 197 = .ok (.iload_n 2, 1) := by decide +kernel
theorem dX12_deafAt_198 : decode cX12_deafAt 198 = .ok (.iload_n 3, 1) := by decide +kernel
theorem dX12_deafAt_199 : decode cX12_deafAt 199 = .ok (.iload 7, 2) := by decide +kernel
theorem dX12_deafAt_201 : decode cX12_deafAt 201 = .ok (.iadd, 1) := by decide +kernel
theorem dX12_deafAt_202 : decode cX12_deafAt 202 = .ok (.iconst 1, 1) := by decide +kernel
theorem dX12_deafAt_203 : decode cX12_deafAt 203 = .ok (.iload 4, 2) := by decide +kernel
theorem dX12_deafAt_205 : decode cX12_deafAt 205 = .ok (.invokevirtual 410, 3) := by decide +kernel
theorem dX12_deafAt_208 : decode cX12_deafAt 208 = .ok (.iadd, 1) := by decide +kernel
theorem dX12_deafAt_209 : decode cX12_deafAt 209 = .ok (.aload_n 0, 1) := by decide +kernel
theorem dX12_deafAt_210 : decode cX12_deafAt 210 = .ok (.iload_n 2, 1) := by decide +kernel
theorem dX12_deafAt_211 : decode cX12_deafAt 211 = .ok (.iload_n 3, 1) := by decide +kernel
theorem dX12_deafAt_212 : decode cX12_deafAt 212 = .ok (.iload 7, 2) := by decide +kernel
theorem dX12_deafAt_214 : decode cX12_deafAt 214 = .ok (.iadd, 1) := by decide +kernel
theorem dX12_deafAt_215 : decode cX12_deafAt 215 = .ok (.iconst 1, 1) := by decide +kernel
theorem dX12_deafAt_216 : decode cX12_deafAt 216 = .ok (.isub, 1) := by decide +kernel
theorem dX12_deafAt_217 : decode cX12_deafAt 217 = .ok (.iconst 1, 1) := by decide +kernel
theorem dX12_deafAt_218 : decode cX12_deafAt 218 = .ok (.iload 4, 2) := by decide +kernel
theorem dX12_deafAt_220 : decode cX12_deafAt 220 = .ok (.invokevirtual 410, 3) := by decide +kernel
theorem dX12_deafAt_223 : decode cX12_deafAt 223 = .ok (.isub, 1) := by decide +kernel
theorem dX12_deafAt_224 : decode cX12_deafAt 224 = .ok (.invokestatic 325, 3) := by decide +kernel
theorem dX12_deafAt_227 : decode cX12_deafAt 227 = .ok (.iadd, 1) := by decide +kernel
theorem dX12_deafAt_228 : decode cX12_deafAt 228 = .ok (.invokestatic 414, 3) := by decide +kernel
theorem dX12_deafAt_231 : decode cX12_deafAt 231 = .ok (.iadd, 1) := by decide +kernel
theorem dX12_deafAt_232 : decode cX12_deafAt 232 = .ok (.istore 10, 2) := by decide +kernel
theorem dX12_deafAt_31 : decode cX12_deafAt 31 = .ok (.iconst 1, 1) := by decide +kernel
theorem dX12_deafAt_32 : decode cX12_deafAt 32 = .ok (.goto 4, 3) := by decide +kernel
theorem dX12_deaf_0 : decode cX12_deaf 0 = .ok (.aload_n 0, 1) := by decide +kernel
theorem dX12_deaf_1 : decode cX12_deaf 1 = .ok (.iload_n 1, 1) := by decide +kernel
theorem dX12_deaf_2 : decode cX12_deaf 2 = .ok (.invokevirtual 338, 3) := by decide +kernel
theorem dX12_deaf_5 : decode cX12_deaf 5 = .ok (.ifCond .eq 21, 3) := by decide +kernel
theorem dX12_deaf_26 : decode cX12_deaf 26 = .ok (.iconst (-1), 1) := by decide +kernel
theorem dX12_deaf_27 : decode cX12_deaf 27 = .ok (.ireturn, 1) := by decide +kernel
theorem dX12_deaf_8 : decode cX12_deaf 8 = .ok (.aload_n 0, 1) := by decide +kernel
theorem dX12_deaf_9 : decode cX12_deaf 9 = .ok (.iload_n 2, 1) := by decide +kernel
theorem dX12_deaf_10 : decode cX12_deaf 10 = .ok (.invokevirtual 338, 3) := by decide +kernel
theorem dX12_deaf_13 : decode cX12_deaf 13 = .ok (.ifCond .eq 13, 3) := by decide +kernel
theorem dX12_deaf_16 : decode cX12_deaf 16 = .ok (.iload_n 3, 1) := by decide +kernel
theorem dX12_deaf_17 : decode cX12_deaf 17 = .ok (.iconst 0, 1) := by decide +kernel
theorem dX12_deaf_18 : decode cX12_deaf 18 = .ok (.bipush 11, 2) := by decide +kernel
theorem dX12_deaf_20 : decode cX12_deaf 20 = .ok (.invokestatic 311, 3) := by decide +kernel
theorem dX12_deaf_23 : decode cX12_deaf 23 = .ok (.ifCond .ne 5, 3) := by decide +kernel
theorem dX12_deaf_28 : decode cX12_deaf 28 = .ok (.iconst (-1), 1) := by decide +kernel
theorem dX12_deaf_29 : decode cX12_deaf 29 = .ok (.istore 4, 2) := by decide +kernel
theorem dX12_deaf_31 : decode cX12_deaf 31 = .ok (.iconst 0, 1) := by decide +kernel
theorem dX12_deaf_32 : decode cX12_deaf 32 = .ok (.istore 5, 2) := by decide +kernel
theorem dX12_deaf_34 : decode cX12_deaf 34 = .ok (.iload 5, 2) := by decide +kernel
theorem dX12_deaf_36 : decode cX12_deaf 36 = .ok (.aload_n 0, 1) := by decide +kernel
theorem dX12_deaf_37 : decode cX12_deaf 37 = .ok (.aload_n 0, 1) := by decide +kernel
theorem dX12_deaf_38 : decode cX12_deaf 38 = .ok (.iload_n 1, 1) := by decide +kernel
theorem dX12_deaf_39 : decode cX12_deaf 39 = .ok (.invokevirtual 341, 3) := by decide +kernel
theorem dX12_deaf_42 : decode cX12_deaf 42 = .ok (.invokevirtual 315, 3) := by decide +kernel
theorem dX12_deaf_45 : decode cX12_deaf 45 = .ok (.iadd, 1) := by decide +kernel
theorem dX12_deaf_46 : decode cX12_deaf 46 = .ok (.aload_n 0, 1) := by decide +kernel
theorem dX12_deaf_47 : decode cX12_deaf 47 = .ok (.aload_n 0, 1) := by decide +kernel
theorem dX12_deaf_48 : decode cX12_deaf 48 = .ok (.iload_n 2, 1) := by decide +kernel
theorem dX12_deaf_49 : decode cX12_deaf 49 = .ok (.invokevirtual 341, 3) := by decide +kernel
theorem dX12_deaf_52 : decode cX12_deaf 52 = .ok (.invokevirtual 315, 3) := by decide +kernel
theorem dX12_deaf_55 : decode cX12_deaf 55 = .ok (.if_icmp .gt 49, 3) := by decide +kernel
theorem dX12_deaf_104 : decode cX12_deaf 104 = .ok (.iload 4, 2) := by decide +kernel
theorem dX12_deaf_106 : decode cX12_deaf 106 = .ok (.ireturn, 1) := by decide +kernel
theorem dX12_deaf_58 : decode cX12_deaf 58 = .ok (.aload_n 0, 1) := by decide +kernel
theorem dX12_deaf_59 : decode cX12_deaf 59 = .ok (.aload_n 0, 1) := by decide +kernel
theorem dX12_deaf_60 : decode cX12_deaf 60 = .ok (.iload_n 1, 1) := by decide +kernel
theorem dX12_deaf_61 : decode cX12_deaf 61 = .ok (.invokevirtual 341, 3) := by decide +kernel
theorem dX12_deaf_64 : decode cX12_deaf 64 = .ok (.aload_n 0, 1) := by decide +kernel
theorem dX12_deaf_65 : decode cX12_deaf 65 = .ok (.iload_n 2, 1) := by decide +kernel
theorem dX12_deaf_66 : decode cX12_deaf 66 = .ok (.invokevirtual 341, 3) := by decide +kernel
theorem dX12_deaf_69 : decode cX12_deaf 69 = .ok (.iload 5, 2) := by decide +kernel
theorem dX12_deaf_71 : decode cX12_deaf 71 = .ok (.iload_n 3, 1) := by decide +kernel
theorem dX12_deaf_72 : decode cX12_deaf 72 = .ok (.invokevirtual 417, 3) := by decide +kernel
theorem dX12_deaf_75 : decode cX12_deaf 75 = .ok (.istore 6, 2) := by decide +kernel
theorem dX12_deaf_77 : decode cX12_deaf 77 = .ok (.iload 4, 2) := by decide +kernel
theorem dX12_deaf_79 : decode cX12_deaf 79 = .ok (.ifCond .lt 10, 3) := by decide +kernel
theorem dX12_deaf_89 : decode cX12_deaf 89 = .ok (.iload 6, 2) := by decide +kernel
theorem dX12_deaf_91 : decode cX12_deaf 91 = .ok (.goto 5, 3) := by decide +kernel
theorem dX12_deaf_96 : decode cX12_deaf 96 = .ok (.istore 4, 2) := by decide +kernel
theorem dX12_deaf_98 : decode cX12_deaf 98 = .ok (.iinc 5 1, 3) := by decide +kernel
theorem dX12_deaf_101 : decode cX12_deaf 101 = .ok (.goto (-67), 3) := by decide +kernel
theorem dX12_deaf_82 : decode cX12_deaf 82 = .ok (.iload 6, 2) := by decide +kernel
theorem dX12_deaf_84 : decode cX12_deaf 84 = .ok (.iload 4, 2) := by decide +kernel
theorem dX12_deaf_86 : decode cX12_deaf 86 = .ok (.if_icmp .ge 8, 3) := by decide +kernel
theorem dX12_deaf_94 : decode cX12_deaf 94 = .ok (.iload 4, 2) := by decide +kernel
theorem dX12_heard_0 : decode cX12_heard 0 = .ok (.aload_n 0, 1) := by decide +kernel
theorem dX12_heard_1 : decode cX12_heard 1 = .ok (.iload_n 1, 1) := by decide +kernel
theorem dX12_heard_2 : decode cX12_heard 2 = .ok (.invokevirtual 338, 3) := by decide +kernel
theorem dX12_heard_5 : decode cX12_heard 5 = .ok (.ifCond .eq 18, 3) := by decide +kernel
theorem dX12_heard_23 : decode cX12_heard 23 = .ok (.iconst (-1), 1) := by decide +kernel
theorem dX12_heard_24 : decode cX12_heard 24 = .ok (.ireturn, 1) := by decide +kernel
theorem dX12_heard_8 : decode cX12_heard 8 = .ok (.aload_n 0, 1) := by decide +kernel
theorem dX12_heard_9 : decode cX12_heard 9 = .ok (.aload_n 0, 1) := by decide +kernel
theorem dX12_heard_10 : decode cX12_heard 10 = .ok (.iload_n 1, 1) := by decide +kernel
theorem dX12_heard_11 : decode cX12_heard 11 = .ok (.invokevirtual 341, 3) := by decide +kernel
theorem dX12_heard_14 : decode cX12_heard 14 = .ok (.bipush 28, 2) := by decide +kernel
theorem dX12_heard_16 : decode cX12_heard 16 = .ok (.iload_n 2, 1) := by decide +kernel
theorem dX12_heard_17 : decode cX12_heard 17 = .ok (.invokevirtual 345, 3) := by decide +kernel
theorem dX12_heard_20 : decode cX12_heard 20 = .ok (.goto 4, 3) := by decide +kernel
theorem dX12_lock_0 : decode cX12_lock 0 = .ok (.aload_n 0, 1) := by decide +kernel
theorem dX12_lock_1 : decode cX12_lock 1 = .ok (.iload_n 1, 1) := by decide +kernel
theorem dX12_lock_2 : decode cX12_lock 2 = .ok (.invokevirtual 369, 3) := by decide +kernel
theorem dX12_lock_5 : decode cX12_lock 5 = .ok (.ifCond .ne 5, 3) := by decide +kernel
theorem dX12_lock_10 : decode cX12_lock 10 = .ok (.iload_n 2, 1) := by decide +kernel
theorem dX12_lock_11 : decode cX12_lock 11 = .ok (.ifCond .ne 20, 3) := by decide +kernel
theorem dX12_lock_31 : decode cX12_lock 31 = .ok (.iload_n 2, 1) := by decide +kernel
theorem dX12_lock_32 : decode cX12_lock 32 = .ok (.iconst 1, 1) := by decide +kernel
theorem dX12_lock_33 : decode cX12_lock 33 = .ok (.if_icmp .ne 12, 3) := by decide +kernel
theorem dX12_lock_45 : decode cX12_lock 45 = .ok (.iload_n 2, 1) := by decide +kernel
theorem dX12_lock_46 : decode cX12_lock 46 = .ok (.iconst 2, 1) := by decide +kernel
theorem dX12_lock_47 : decode cX12_lock 47 = .ok (.if_icmp .ne 17, 3) := by decide +kernel
theorem dX12_lock_64 : decode cX12_lock 64 = .ok (.iconst (-1), 1) := by decide +kernel
theorem dX12_lock_65 : decode cX12_lock 65 = .ok (.ireturn, 1) := by decide +kernel
theorem dX12_lock_50 : decode cX12_lock 50 = .ok (.aload_n 0, 1) := by decide +kernel
theorem dX12_lock_51 : decode cX12_lock 51 = .ok (.iload_n 1, 1) := by decide +kernel
theorem dX12_lock_52 : decode cX12_lock 52 = .ok (.aload_n 0, 1) := by decide +kernel
theorem dX12_lock_53 : decode cX12_lock 53 = .ok (.getfield 80, 3) := by decide +kernel
theorem dX12_lock_56 : decode cX12_lock 56 = .ok (.iload_n 1, 1) := by decide +kernel
theorem dX12_lock_57 : decode cX12_lock 57 = .ok (.iaload, 1) := by decide +kernel
theorem dX12_lock_58 : decode cX12_lock 58 = .ok (.invokevirtual 348, 3) := by decide +kernel
theorem dX12_lock_61 : decode cX12_lock 61 = .ok (.goto 4, 3) := by decide +kernel
theorem dX12_lock_36 : decode cX12_lock 36 = .ok (.aload_n 0, 1) := by decide +kernel
theorem dX12_lock_37 : decode cX12_lock 37 = .ok (.getfield 80, 3) := by decide +kernel
theorem dX12_lock_40 : decode cX12_lock 40 = .ok (.iload_n 1, 1) := by decide +kernel
theorem dX12_lock_41 : decode cX12_lock 41 = .ok (.iaload, 1) := by decide +kernel
theorem dX12_lock_42 : decode cX12_lock 42 = .ok (.goto 23, 3) := by decide +kernel
theorem dX12_lock_14 : decode cX12_lock 14 = .ok (.aload_n 0, 1) := by decide +kernel
theorem dX12_lock_15 : decode cX12_lock 15 = .ok (.getfield 77, 3) := by decide +kernel
theorem dX12_lock_18 : decode cX12_lock 18 = .ok (.iload_n 1, 1) := by decide +kernel
theorem dX12_lock_19 : decode cX12_lock 19 = .ok (.baload, 1) := by decide +kernel
theorem dX12_lock_20 : decode cX12_lock 20 = .ok (.ifCond .eq 7, 3) := by decide +kernel
theorem dX12_lock_27 : decode cX12_lock 27 = .ok (.iconst 0, 1) := by decide +kernel
theorem dX12_lock_28 : decode cX12_lock 28 = .ok (.goto 37, 3) := by decide +kernel
theorem dX12_lock_23 : decode cX12_lock 23 = .ok (.iconst 1, 1) := by decide +kernel
theorem dX12_lock_24 : decode cX12_lock 24 = .ok (.goto 41, 3) := by decide +kernel
theorem dX12_lock_8 : decode cX12_lock 8 = .ok (.iconst (-1), 1) := by decide +kernel
theorem dX12_lock_9 : decode cX12_lock 9 = .ok (.ireturn, 1) := by decide +kernel
theorem dX12_fault_0 : decode cX12_fault 0 = .ok (.iload_n 1, 1) := by decide +kernel
theorem dX12_fault_1 : decode cX12_fault 1 = .ok (.ifCond .ne 10, 3) := by decide +kernel
theorem dX12_fault_11 : decode cX12_fault 11 = .ok (.iload_n 1, 1) := by decide +kernel
theorem dX12_fault_12 : decode cX12_fault 12 = .ok (.iconst 1, 1) := by decide +kernel
theorem dX12_fault_13 : decode cX12_fault 13 = .ok (.if_icmp .ne 10, 3) := by decide +kernel
theorem dX12_fault_23 : decode cX12_fault 23 = .ok (.iconst (-1), 1) := by decide +kernel
theorem dX12_fault_24 : decode cX12_fault 24 = .ok (.ireturn, 1) := by decide +kernel
theorem dX12_fault_16 : decode cX12_fault 16 = .ok (.aload_n 0, 1) := by decide +kernel
theorem dX12_fault_17 : decode cX12_fault 17 = .ok (.getfield 16, 3) := by decide +kernel
theorem dX12_fault_20 : decode cX12_fault 20 = .ok (.goto 4, 3) := by decide +kernel
theorem dX12_fault_4 : decode cX12_fault 4 = .ok (.aload_n 0, 1) := by decide +kernel
theorem dX12_fault_5 : decode cX12_fault 5 = .ok (.getfield 137, 3) := by decide +kernel
theorem dX12_fault_8 : decode cX12_fault 8 = .ok (.goto 16, 3) := by decide +kernel
theorem dX12_about_0 : decode cX12_about 0 = .ok (.iload_n 1, 1) := by decide +kernel
theorem dX12_about_1 : decode cX12_about 1 = .ok (.tableswitch 110 0 7 #[47, 57, 67, 72, 85, 90, 95, 100], 47) := by decide +kernel
theorem dX12_about_48 : decode cX12_about 48 = .ok (.aload_n 0, 1) := by decide +kernel
theorem dX12_about_49 : decode cX12_about 49 = .ok (.getfield 20, 3) := by decide +kernel
theorem dX12_about_52 : decode cX12_about 52 = .ok (.aload_n 0, 1) := by decide +kernel
theorem dX12_about_53 : decode cX12_about 53 = .ok (.getfield 227, 3) := by decide +kernel
theorem dX12_about_56 : decode cX12_about 56 = .ok (.iaload, 1) := by decide +kernel
theorem dX12_about_57 : decode cX12_about 57 = .ok (.ireturn, 1) := by decide +kernel
theorem dX12_about_58 : decode cX12_about 58 = .ok (.aload_n 0, 1) := by decide +kernel
theorem dX12_about_59 : decode cX12_about 59 = .ok (.getfield 24, 3) := by decide +kernel
theorem dX12_about_62 : decode cX12_about 62 = .ok (.aload_n 0, 1) := by decide +kernel
theorem dX12_about_63 : decode cX12_about 63 = .ok (.getfield 227, 3) := by decide +kernel
theorem dX12_about_66 : decode cX12_about 66 = .ok (.iaload, 1) := by decide +kernel
theorem dX12_about_67 : decode cX12_about 67 = .ok (.ireturn, 1) := by decide +kernel
theorem dX12_about_68 : decode cX12_about 68 = .ok (.aload_n 0, 1) := by decide +kernel
theorem dX12_about_69 : decode cX12_about 69 = .ok (.getfield 236, 3) := by decide +kernel
theorem dX12_about_72 : decode cX12_about 72 = .ok (.ireturn, 1) := by decide +kernel
theorem dX12_about_73 : decode cX12_about 73 = .ok (.aload_n 0, 1) := by decide +kernel
theorem dX12_about_74 : decode cX12_about 74 = .ok (.getfield 239, 3) := by decide +kernel
theorem dX12_about_77 : decode cX12_about 77 = .ok (.ifCond .eq 7, 3) := by decide +kernel
theorem dX12_about_84 : decode cX12_about 84 = .ok (.iconst 0, 1) := by decide +kernel
theorem dX12_about_85 : decode cX12_about 85 = .ok (.ireturn, 1) := by decide +kernel
theorem dX12_about_80 : decode cX12_about 80 = .ok (.iconst 1, 1) := by decide +kernel
theorem dX12_about_81 : decode cX12_about 81 = .ok (.goto 4, 3) := by decide +kernel
theorem dX12_about_86 : decode cX12_about 86 = .ok (.aload_n 0, 1) := by decide +kernel
theorem dX12_about_87 : decode cX12_about 87 = .ok (.getfield 233, 3) := by decide +kernel
theorem dX12_about_90 : decode cX12_about 90 = .ok (.ireturn, 1) := by decide +kernel
theorem dX12_about_91 : decode cX12_about 91 = .ok (.aload_n 0, 1) := by decide +kernel
theorem dX12_about_92 : decode cX12_about 92 = .ok (.getfield 423, 3) := by decide +kernel
theorem dX12_about_95 : decode cX12_about 95 = .ok (.ireturn, 1) := by decide +kernel
theorem dX12_about_96 : decode cX12_about 96 = .ok (.aload_n 0, 1) := by decide +kernel
theorem dX12_about_97 : decode cX12_about 97 = .ok (.getfield 224, 3) := by decide +kernel
theorem dX12_about_100 : decode cX12_about 100 = .ok (.ireturn, 1) := by decide +kernel
theorem dX12_about_101 : decode cX12_about 101 = .ok (.aload_n 0, 1) := by decide +kernel
theorem dX12_about_102 : decode cX12_about 102 = .ok (.getfield 27, 3) := by decide +kernel
theorem dX12_about_105 : decode cX12_about 105 = .ok (.aload_n 0, 1) := by decide +kernel
theorem dX12_about_106 : decode cX12_about 106 = .ok (.getfield 227, 3) := by decide +kernel
theorem dX12_about_109 : decode cX12_about 109 = .ok (.iaload, 1) := by decide +kernel
theorem dX12_about_110 : decode cX12_about 110 = .ok (.ireturn, 1) := by decide +kernel
theorem dX12_about_111 : decode cX12_about 111 = .ok (.iconst (-1), 1) := by decide +kernel
theorem dX12_about_112 : decode cX12_about 112 = .ok (.ireturn, 1) := by decide +kernel
set_option maxHeartbeats 4000000 in
set_option maxRecDepth 100000 in
theorem m_lengthOf (l : Launch) (G : va_G) (cy : Nat → ClassId) (sz : Nat) (mo : Nat) (h : Nat → Nat) (T : Int) (v : Nat → Int32) (nm : Int64) (f : Nat → Nat → Int32) (g : Nat → Nat → Int64) (n : Int32)  (hv : MIv T v) (hf : MIf f) (hR : RI v f) (hL : WL v f) (h_n : 0 ≤ n.toInt ∧ n.toInt ≤ 27) : Met l yX12_lengthOf (.code yX12_lengthOf cX12_lengthOf 4 (some .int) :: TBg) ({ frames := 2, cells := 0, slots := 0, locals := 128 }) (va_Pc [.ref mo, .int n] (En G cy (WMs cy mo h v nm f g) sz)) (va_Qi (fun (r : Int32) (_ : Unit) => (0 ≤ r.toInt ∧ r.toInt ≤ 108) ∧ r.toInt = lsm (f 17) (40 * n.toInt).toNat (f 15 (Int32.toNatClampNeg n)).toInt.toNat) (fun _ _ => True) (va_A [] sz)) 0 0 (va_A [] sz) := by
  refine Met.ofW (cc := cX12_lengthOf) (maxL := 4) (ret := (some .int)) (by decide) rfl ?_
  intro p e s m args below meth c s₁ B hml hv9
  obtain ⟨rfl, hsz, hP, hK, hD0, hN⟩ := hv9
  have hx := B.exec
  have hb := B.bytes
  have hr := B.returns
  have hts := atoms_spec (ws := .code yX12_lengthOf cX12_lengthOf 4 (some .int) :: TBg) B.pre
  have ht : ∀ w ∈ TBg, w.before _ s = true := fun w h => hts w (List.mem_cons_of_mem _ h)
  have hown : s.vm.findClass RX12 = some m.cls := findClass_of_methodNamed B.named
  have hlocks := B.notSynchronized
  subst hsz
  generalize hAe : va_A [] s.heap.size = A at ⊢
  have hA : ∀ q : Nat, s.heap.size ≤ q → A q := fun q h => by rw [← hAe]; exact Or.inr h
  have hS : va_S A s.heap s.heap [] := va_S.rf
  have hl := lv_entry ([.ref mo, .int n]) (n := 4) (Nat.le_of_ble_eq_true rfl)
  rw [lg_entry_eq]
  generalize (lg_sl ([.ref mo, .int n]) ++ List.replicate (4 - (lg_sl ([.ref mo, .int n])).length) Slot.unset).toArray = ls at hl ⊢
  have hl : lv_has ls 4 [(0, .ref mo), (1, .int n)] := hl
  have z0 : (0 : Int32).toInt = 0 := by decide
  have z1 : (1 : Int32).toInt = 1 := by decide
  have z2 : (40 : Int32).toInt = 40 := by decide
  have h15 : 0 ≤ (f 15 (Int32.toNatClampNeg n)).toInt ∧ (f 15 (Int32.toNatClampNeg n)).toInt ≤ 12 := hf 15 _ (show Int32.toNatClampNeg n < 30 from by rw [ow_tn]; omega)
  refine lv_iconst (v := 0) hx hb dX12_lengthOf_0 (by decide) ?_
  refine lv_istore_n (lv' := [(2, .int 0), (0, .ref mo), (1, .int n)]) hx hb dX12_lengthOf_1 rfl hl (by decide) rfl (fun ls hl => ?_)
  refine lv_iconst (v := 0) hx hb dX12_lengthOf_2 (by decide) ?_
  refine lv_istore_n (lv' := [(3, .int 0), (2, .int 0), (0, .ref mo), (1, .int n)]) hx hb dX12_lengthOf_3 rfl hl (by decide) rfl (fun ls hl => ?_)
  refine W.widen (k := 0) (n := 0) (Nat.le_of_ble_eq_true rfl) (Nat.le_of_ble_eq_true rfl) ?_
  have lp_1 : ∀ (N : Nat) (x3_1 : Int32) (x2_1 : Int32) (H : Heap) (locs : List Loc) (ls : Array Slot), (0 ≤ x3_1.toInt ∧ x3_1.toInt ≤ 12) → (0 ≤ x2_1.toInt ∧ x2_1.toInt ≤ 108) → x2_1.toInt ≤ 9 * x3_1.toInt → x3_1.toInt ≤ (f 15 (Int32.toNatClampNeg n)).toInt → x2_1.toInt = lsm (f 17) (40 * n.toInt).toNat x3_1.toInt.toNat → (12 - x3_1.toInt).toNat < N → va_P G vwCl (WMs cy mo h v nm f g) H → va_S A s.heap H locs → lv_has ls 4 [(3, .int x3_1), (2, .int x2_1), (0, .ref mo), (1, .int n)] → W p l e (headSpec (.code yX12_lengthOf cX12_lengthOf 4 (some .int) :: TBg) ({ frames := 2, cells := 0, slots := 0, locals := 128 })).room s m ([.ref mo, .int n] : List Value).toArray below meth c H locs 0 0 (MQ below (va_Qi (fun (r : Int32) (_ : Unit) => (0 ≤ r.toInt ∧ r.toInt ≤ 108) ∧ r.toInt = lsm (f 17) (40 * n.toInt).toNat (f 15 (Int32.toNatClampNeg n)).toInt.toNat) (fun _ _ => True) A) ([.ref mo, .int n] : List Value).toArray s 0 0 A) (F0 m 4 ls []) := by
    intro N
    induction N with
    | zero => intro x3_1 x2_1 H locs ls qf1_0 qf1_1 qf1_2 qf1_3 qf1_4 hm hP hS hl; exact absurd hm (Nat.not_lt_zero _)
    | succ N ih_1 =>
      intro x3_1 x2_1 H locs ls qf1_0 qf1_1 qf1_2 qf1_3 qf1_4 hm hP hS hl
      refine lv_iload_n hx hb dX12_lengthOf_4 rfl (lv_at hl 0 rfl) ?_
      refine lv_aload_n hx hb dX12_lengthOf_5 rfl (lv_at hl 2 rfl) ?_
      refine lv_iload_n hx hb dX12_lengthOf_6 rfl (lv_at hl 3 rfl) ?_
      have hFc := fr_new hS hA
      refine va_calli (va_runV (As := [.int n]) (rest := [.int x3_1]) ⟨hx, hb, hml, hown, ht⟩ (m_many27 l G cy _ mo h T v nm f g n  hv hf hR hL (by omega)) (cwV 1 ht (gv k_63 k_64 k_65 k_61 k_62) rfl rfl rfl (by decide +kernel) ⟨Nat.le_of_ble_eq_true rfl, Nat.le_of_ble_eq_true rfl⟩) ⟨En.blind, va_recv hK hP (ci := 12) (q0 := 0) rfl rfl, fun U hU hW => ⟨rfl, En.of hU hW hP hK hD0 hN⟩⟩ rfl rfl hl.1 rfl (lv_room (Nat.le_of_ble_eq_true rfl)) dX12_lengthOf_7 ⟨Nat.le_of_ble_eq_true rfl, Nat.le_of_ble_eq_true rfl⟩) hS (fun q _ h => hFc q h) hFc (fun r_u_2 u_2 t9 H locs ht9 hvm hw hB hz1 hk1 hS => ?_)
      have hP := fr_keep hP hk1
      have wu_2 := hw
      clear hFc hk1 hz1 hB hw
      refine lv_icmp_ge (tgt := 33) hx hb dX12_lengthOf_10 (by decide) (fun c_3 => ?_) (fun c_3 => ?_)
      · have q_4 : r_u_2.toInt ≤ x3_1.toInt := (ow_le _ _).mp c_3
        refine lv_iload_n hx hb dX12_lengthOf_33 rfl (lv_at hl 1 rfl) ?_
        refine W.widen (k := 0) (n := 0) (Nat.le_of_ble_eq_true rfl) (Nat.le_of_ble_eq_true rfl) ?_
        exact W.iret (v := x2_1) hx hb hr (fun t ht9 hW => ⟨⟨x2_1, (), rfl, ⟨by omega, by rw [show (f 15 (Int32.toNatClampNeg n)).toInt.toNat = x3_1.toInt.toNat from by omega]; omega⟩, trivial⟩, hS.F ht9⟩) hS.2.2 dX12_lengthOf_34
      · have q_5 : x3_1.toInt < r_u_2.toInt := by have := (not_congr (ow_le _ _)).mp c_3; omega
        refine lv_iload_n hx hb dX12_lengthOf_13 rfl (lv_at hl 1 rfl) ?_
        refine lv_aload_n hx hb dX12_lengthOf_14 rfl (lv_at hl 2 rfl) ?_
        refine mg_17 hx hb ht hown hK hP dX12_lengthOf_15 ?_
        refine lv_bipush (v := 40) hx hb dX12_lengthOf_18 (by decide) ?_
        refine lv_iload_n hx hb dX12_lengthOf_20 rfl (lv_at hl 3 rfl) ?_
        refine lv_imul hx hb dX12_lengthOf_21 ?_
        refine lv_topi (fun v_6 ev_6 => ?_)
        have q_7 : v_6.toInt = 40 * n.toInt := ow_mul ev_6 (by decide) (by omega) (by omega)
        refine lv_iload_n hx hb dX12_lengthOf_22 rfl (lv_at hl 0 rfl) ?_
        refine lv_iadd hx hb dX12_lengthOf_23 ?_
        refine lv_topi (fun v_8 ev_8 => ?_)
        have q_9 : v_8.toInt = v_6.toInt + x3_1.toInt := ow_add ev_8 (by omega) (by omega)
        have q_10 : vp_in v_8 1200 := vp_in_iff.mpr ⟨by omega, by omega⟩
        refine ml_17 hx hb hK hP q_10 dX12_lengthOf_24 ?_
        refine lv_topi (fun v_11 ev_11 => ?_)
        have q_12 : 0 ≤ v_11.toInt ∧ v_11.toInt ≤ 9 := by rw [ev_11]; exact MIf.rd 17 hf q_10
        have q_13 : v_11.toInt = ((f 17) (Int32.toNatClampNeg v_8)).toInt := (congrArg Int32.toInt ev_11).trans (congrArg (fun z : Nat → Int32 => (z (Int32.toNatClampNeg v_8)).toInt) (show f 17 = (f 17) from rfl))
        refine lv_iadd hx hb dX12_lengthOf_25 ?_
        refine lv_topi (fun v_14 ev_14 => ?_)
        have q_15 : v_14.toInt = x2_1.toInt + v_11.toInt := ow_add ev_14 (by omega) (by omega)
        refine lv_istore_n (lv' := [(2, .int v_14), (3, .int x3_1), (0, .ref mo), (1, .int n)]) hx hb dX12_lengthOf_26 rfl hl (by decide) rfl (fun ls hl => ?_)
        obtain ⟨v_16, ev_16⟩ : ∃ y : Int32, y = x3_1 + 1 := ⟨_, rfl⟩
        refine lv_iinc (v := v_16) (lv' := [(3, .int v_16), (2, .int v_14), (0, .ref mo), (1, .int n)]) hx hb dX12_lengthOf_27 hl (k := 1) rfl (by rw [ev_16]; rfl) (by decide) rfl (fun ls hl => ?_)
        have q_17 : v_16.toInt = x3_1.toInt + 1 := by have := ow_add ev_16 (by omega) (by omega); omega
        refine lv_goto (tgt := 4) hx hb dX12_lengthOf_30 (by decide) ?_
        refine W.widen (k := 0) (n := 0) (Nat.le_of_ble_eq_true rfl) (Nat.le_of_ble_eq_true rfl) ?_
        exact ih_1 v_16 v_14 _ _ _ (by omega) (by omega) (by omega) (by omega) (by rw [lsm_step (k := x3_1) (k1 := v_16) (j := v_8) (by omega) (by omega) (by omega)]; omega) (by omega) hP hS (lv_sub hl [0, 1, 2, 3] rfl)
  exact lp_1 _ (0) (0) _ _ _ (by omega) (by omega) (by omega) (by omega) (show (0 : Int32).toInt = 0 by decide) (Nat.lt_succ_self _) hP hS (lv_sub hl [0, 1, 2, 3] rfl)
set_option maxHeartbeats 4000000 in
set_option maxRecDepth 100000 in
theorem m_fits (l : Launch) (G : va_G) (cy : Nat → ClassId) (sz : Nat) (mo : Nat) (h : Nat → Nat) (T : Int) (v : Nat → Int32) (nm : Int64) (f : Nat → Nat → Int32) (g : Nat → Nat → Int64) (n : Int32) (n2 : Int32) (n3 : Int32)  (hv : MIv T v) (hf : MIf f) (hR : RI v f) (hL : WL v f) (h_n : 0 ≤ n.toInt ∧ n.toInt ≤ 27) (h_n2 : 0 ≤ n2.toInt ∧ n2.toInt ≤ 27) (h_n3 : 0 ≤ n3.toInt ∧ n3.toInt ≤ 11) (hk : n3.toInt < (f 15 (Int32.toNatClampNeg n)).toInt) : Met l yX12_fits (.code yX12_fits cX12_fits 6 (some .boolean) :: TBg) ({ frames := 2, cells := 0, slots := 0, locals := 128 }) (va_Pc [.ref mo, .int n, .int n2, .int n3] (En G cy (WMs cy mo h v nm f g) sz)) (va_Qi (fun (r : Int32) (_ : Unit) => (r.toInt = 0 ∨ r.toInt = 1)) (fun _ _ => True) (va_A [] sz)) 0 0 (va_A [] sz) := by
  refine Met.ofW (cc := cX12_fits) (maxL := 6) (ret := (some .boolean)) (by decide) rfl ?_
  intro p e s m args below meth c s₁ B hml hv9
  obtain ⟨rfl, hsz, hP, hK, hD0, hN⟩ := hv9
  have hx := B.exec
  have hb := B.bytes
  have hr := B.returns
  have hts := atoms_spec (ws := .code yX12_fits cX12_fits 6 (some .boolean) :: TBg) B.pre
  have ht : ∀ w ∈ TBg, w.before _ s = true := fun w h => hts w (List.mem_cons_of_mem _ h)
  have hown : s.vm.findClass RX12 = some m.cls := findClass_of_methodNamed B.named
  have hlocks := B.notSynchronized
  subst hsz
  generalize hAe : va_A [] s.heap.size = A at ⊢
  have hA : ∀ q : Nat, s.heap.size ≤ q → A q := fun q h => by rw [← hAe]; exact Or.inr h
  have hS : va_S A s.heap s.heap [] := va_S.rf
  have hl := lv_entry ([.ref mo, .int n, .int n2, .int n3]) (n := 6) (Nat.le_of_ble_eq_true rfl)
  rw [lg_entry_eq]
  generalize (lg_sl ([.ref mo, .int n, .int n2, .int n3]) ++ List.replicate (6 - (lg_sl ([.ref mo, .int n, .int n2, .int n3])).length) Slot.unset).toArray = ls at hl ⊢
  have hl : lv_has ls 6 [(0, .ref mo), (1, .int n), (2, .int n2), (3, .int n3)] := hl
  have z0 : (0 : Int32).toInt = 0 := by decide
  have z1 : (1 : Int32).toInt = 1 := by decide
  have z2 : (40 : Int32).toInt = 40 := by decide
  refine lv_aload_n hx hb dX12_fits_0 rfl (lv_at hl 0 rfl) ?_
  refine lv_iload_n hx hb dX12_fits_1 rfl (lv_at hl 1 rfl) ?_
  have hFc := fr_new hS hA
  refine va_calli (va_runV (As := [.int n]) (rest := []) ⟨hx, hb, hml, hown, ht⟩ (m_many27 l G cy _ mo h T v nm f g n  hv hf hR hL (by omega)) (cwV 1 ht (gv k_63 k_64 k_65 k_61 k_62) rfl rfl rfl (by decide +kernel) ⟨Nat.le_of_ble_eq_true rfl, Nat.le_of_ble_eq_true rfl⟩) ⟨En.blind, va_recv hK hP (ci := 12) (q0 := 0) rfl rfl, fun U hU hW => ⟨rfl, En.of hU hW hP hK hD0 hN⟩⟩ rfl rfl hl.1 rfl (lv_room (Nat.le_of_ble_eq_true rfl)) dX12_fits_2 ⟨Nat.le_of_ble_eq_true rfl, Nat.le_of_ble_eq_true rfl⟩) hS (fun q _ h => hFc q h) hFc (fun r_u_1 u_1 t9 H locs ht9 hvm hw hB hz1 hk1 hS => ?_)
  have hP := fr_keep hP hk1
  have wu_1 := hw
  clear hFc hk1 hz1 hB hw
  refine lv_iload_n hx hb dX12_fits_5 rfl (lv_at hl 3 rfl) ?_
  refine lv_isub hx hb dX12_fits_6 ?_
  refine lv_topi (fun v_2 ev_2 => ?_)
  have q_3 : v_2.toInt = r_u_1.toInt - n3.toInt := ow_sub ev_2 (by omega) (by omega)
  refine lv_istore (lv' := [(4, .int v_2), (0, .ref mo), (1, .int n), (2, .int n2), (3, .int n3)]) hx hb dX12_fits_7 hl (by decide) rfl (fun ls hl => ?_)
  refine lv_iconst (v := 0) hx hb dX12_fits_9 (by decide) ?_
  refine lv_istore (lv' := [(5, .int 0), (4, .int v_2), (0, .ref mo), (1, .int n), (2, .int n2), (3, .int n3)]) hx hb dX12_fits_10 hl (by decide) rfl (fun ls hl => ?_)
  refine W.widen (k := 0) (n := 0) (Nat.le_of_ble_eq_true rfl) (Nat.le_of_ble_eq_true rfl) ?_
  have lp_4 : ∀ (N : Nat) (x5_4 : Int32) (H : Heap) (locs : List Loc) (ls : Array Slot), (0 ≤ x5_4.toInt ∧ x5_4.toInt ≤ 11) → (12 - x5_4.toInt).toNat < N → va_P G vwCl (WMs cy mo h v nm f g) H → va_S A s.heap H locs → lv_has ls 6 [(5, .int x5_4), (4, .int v_2), (0, .ref mo), (1, .int n), (2, .int n2), (3, .int n3)] → W p l e (headSpec (.code yX12_fits cX12_fits 6 (some .boolean) :: TBg) ({ frames := 2, cells := 0, slots := 0, locals := 128 })).room s m ([.ref mo, .int n, .int n2, .int n3] : List Value).toArray below meth c H locs 0 0 (MQ below (va_Qi (fun (r : Int32) (_ : Unit) => (r.toInt = 0 ∨ r.toInt = 1)) (fun _ _ => True) A) ([.ref mo, .int n, .int n2, .int n3] : List Value).toArray s 0 0 A) (F0 m 12 ls []) := by
    intro N
    induction N with
    | zero => intro x5_4 H locs ls qf4_0 hm hP hS hl; exact absurd hm (Nat.not_lt_zero _)
    | succ N ih_4 =>
      intro x5_4 H locs ls qf4_0 hm hP hS hl
      refine lv_iload hx hb dX12_fits_12 (lv_at hl 0 rfl) ?_
      refine lv_iload_n hx hb dX12_fits_14 rfl (lv_at hl 5 rfl) ?_
      refine lv_icmp_ge (tgt := 109) hx hb dX12_fits_15 (by decide) (fun c_5 => ?_) (fun c_5 => ?_)
      · have q_6 : n3.toInt ≤ x5_4.toInt := (ow_le _ _).mp c_5
        refine lv_iconst (v := 1) hx hb dX12_fits_109 (by decide) ?_
        refine W.widen (k := 0) (n := 0) (Nat.le_of_ble_eq_true rfl) (Nat.le_of_ble_eq_true rfl) ?_
        exact W.zret (v := 1) hx hb hr rfl (fun t ht9 hW => ⟨⟨1, (), rfl, (by omega), trivial⟩, hS.F ht9⟩) hS.2.2 dX12_fits_110
      · have q_7 : x5_4.toInt < n3.toInt := by have := (not_congr (ow_le _ _)).mp c_5; omega
        refine lv_aload_n hx hb dX12_fits_18 rfl (lv_at hl 2 rfl) ?_
        refine mg_17 hx hb ht hown hK hP dX12_fits_19 ?_
        refine lv_bipush (v := 40) hx hb dX12_fits_22 (by decide) ?_
        refine lv_iload_n hx hb dX12_fits_24 rfl (lv_at hl 3 rfl) ?_
        refine lv_imul hx hb dX12_fits_25 ?_
        refine lv_topi (fun v_8 ev_8 => ?_)
        have q_9 : v_8.toInt = 40 * n.toInt := ow_mul ev_8 (by decide) (by omega) (by omega)
        refine lv_iload hx hb dX12_fits_26 (lv_at hl 1 rfl) ?_
        refine lv_iadd hx hb dX12_fits_28 ?_
        refine lv_topi (fun v_10 ev_10 => ?_)
        have q_11 : v_10.toInt = v_8.toInt + v_2.toInt := ow_add ev_10 (by omega) (by omega)
        refine lv_iload hx hb dX12_fits_29 (lv_at hl 0 rfl) ?_
        refine lv_iadd hx hb dX12_fits_31 ?_
        refine lv_topi (fun v_12 ev_12 => ?_)
        have q_13 : v_12.toInt = v_10.toInt + x5_4.toInt := ow_add ev_12 (by omega) (by omega)
        have q_14 : vp_in v_12 1200 := vp_in_iff.mpr ⟨by omega, by omega⟩
        refine ml_17 hx hb hK hP q_14 dX12_fits_32 ?_
        refine lv_topi (fun v_15 ev_15 => ?_)
        have q_16 : 0 ≤ v_15.toInt ∧ v_15.toInt ≤ 9 := by rw [ev_15]; exact MIf.rd 17 hf q_14
        have q_17 : v_15.toInt = ((f 17) (Int32.toNatClampNeg v_12)).toInt := (congrArg Int32.toInt ev_15).trans (congrArg (fun z : Nat → Int32 => (z (Int32.toNatClampNeg v_12)).toInt) (show f 17 = (f 17) from rfl))
        refine lv_aload_n hx hb dX12_fits_33 rfl (lv_at hl 2 rfl) ?_
        refine mg_17 hx hb ht hown hK hP dX12_fits_34 ?_
        refine lv_bipush (v := 40) hx hb dX12_fits_37 (by decide) ?_
        refine lv_iload_n hx hb dX12_fits_39 rfl (lv_at hl 4 rfl) ?_
        refine lv_imul hx hb dX12_fits_40 ?_
        refine lv_topi (fun v_18 ev_18 => ?_)
        have q_19 : v_18.toInt = 40 * n2.toInt := ow_mul ev_18 (by decide) (by omega) (by omega)
        have q_20 : vp_in v_18 1200 := vp_in_iff.mpr ⟨by omega, by omega⟩
        refine ml_17 hx hb hK hP q_20 dX12_fits_41 ?_
        refine lv_topi (fun v_21 ev_21 => ?_)
        have q_22 : 0 ≤ v_21.toInt ∧ v_21.toInt ≤ 9 := by rw [ev_21]; exact MIf.rd 17 hf q_20
        have q_23 : v_21.toInt = ((f 17) (Int32.toNatClampNeg v_18)).toInt := (congrArg Int32.toInt ev_21).trans (congrArg (fun z : Nat → Int32 => (z (Int32.toNatClampNeg v_18)).toInt) (show f 17 = (f 17) from rfl))
        refine lv_imul hx hb dX12_fits_42 ?_
        refine lv_topi (fun v_24 ev_24 => ?_)
        refine lv_aload_n hx hb dX12_fits_43 rfl (lv_at hl 2 rfl) ?_
        refine mg_17 hx hb ht hown hK hP dX12_fits_44 ?_
        refine lv_bipush (v := 40) hx hb dX12_fits_47 (by decide) ?_
        refine lv_iload_n hx hb dX12_fits_49 rfl (lv_at hl 3 rfl) ?_
        refine lv_imul hx hb dX12_fits_50 ?_
        refine lv_topi (fun v_25 ev_25 => ?_)
        have q_26 : v_25.toInt = 40 * n.toInt := ow_mul ev_25 (by decide) (by omega) (by omega)
        refine lv_iload hx hb dX12_fits_51 (lv_at hl 1 rfl) ?_
        refine lv_iadd hx hb dX12_fits_53 ?_
        refine lv_topi (fun v_27 ev_27 => ?_)
        have q_28 : v_27.toInt = v_25.toInt + v_2.toInt := ow_add ev_27 (by omega) (by omega)
        have q_29 : vp_in v_27 1200 := vp_in_iff.mpr ⟨by omega, by omega⟩
        refine ml_17 hx hb hK hP q_29 dX12_fits_54 ?_
        refine lv_topi (fun v_30 ev_30 => ?_)
        have q_31 : 0 ≤ v_30.toInt ∧ v_30.toInt ≤ 9 := by rw [ev_30]; exact MIf.rd 17 hf q_29
        have q_32 : v_30.toInt = ((f 17) (Int32.toNatClampNeg v_27)).toInt := (congrArg Int32.toInt ev_30).trans (congrArg (fun z : Nat → Int32 => (z (Int32.toNatClampNeg v_27)).toInt) (show f 17 = (f 17) from rfl))
        refine lv_aload_n hx hb dX12_fits_55 rfl (lv_at hl 2 rfl) ?_
        refine mg_17 hx hb ht hown hK hP dX12_fits_56 ?_
        refine lv_bipush (v := 40) hx hb dX12_fits_59 (by decide) ?_
        refine lv_iload_n hx hb dX12_fits_61 rfl (lv_at hl 4 rfl) ?_
        refine lv_imul hx hb dX12_fits_62 ?_
        refine lv_topi (fun v_33 ev_33 => ?_)
        have q_34 : v_33.toInt = 40 * n2.toInt := ow_mul ev_33 (by decide) (by omega) (by omega)
        refine lv_iload hx hb dX12_fits_63 (lv_at hl 0 rfl) ?_
        refine lv_iadd hx hb dX12_fits_65 ?_
        refine lv_topi (fun v_35 ev_35 => ?_)
        have q_36 : v_35.toInt = v_33.toInt + x5_4.toInt := ow_add ev_35 (by omega) (by omega)
        have q_37 : vp_in v_35 1200 := vp_in_iff.mpr ⟨by omega, by omega⟩
        refine ml_17 hx hb hK hP q_37 dX12_fits_66 ?_
        refine lv_topi (fun v_38 ev_38 => ?_)
        have q_39 : 0 ≤ v_38.toInt ∧ v_38.toInt ≤ 9 := by rw [ev_38]; exact MIf.rd 17 hf q_37
        have q_40 : v_38.toInt = ((f 17) (Int32.toNatClampNeg v_35)).toInt := (congrArg Int32.toInt ev_38).trans (congrArg (fun z : Nat → Int32 => (z (Int32.toNatClampNeg v_35)).toInt) (show f 17 = (f 17) from rfl))
        refine lv_imul hx hb dX12_fits_67 ?_
        refine lv_topi (fun v_41 ev_41 => ?_)
        refine lv_icmp_eq (tgt := 73) hx hb dX12_fits_68 (by decide) (fun c_42 => ?_) (fun c_42 => ?_)
        · have q_43 : v_24.toInt = v_41.toInt := (ow_eq _ _).mp c_42
          refine lv_iload hx hb dX12_fits_73 (lv_at hl 0 rfl) ?_
          refine lv_iconst (v := 1) hx hb dX12_fits_75 (by decide) ?_
          refine lv_iadd hx hb dX12_fits_76 ?_
          refine lv_topi (fun v_44 ev_44 => ?_)
          have q_45 : v_44.toInt = x5_4.toInt + (1 : Int32).toInt := ow_add ev_44 (by omega) (by omega)
          refine lv_iload_n hx hb dX12_fits_77 rfl (lv_at hl 5 rfl) ?_
          refine lv_icmp_ge (tgt := 103) hx hb dX12_fits_78 (by decide) (fun c_46 => ?_) (fun c_46 => ?_)
          · have q_47 : n3.toInt ≤ v_44.toInt := (ow_le _ _).mp c_46
            obtain ⟨v_48, ev_48⟩ : ∃ y : Int32, y = x5_4 + 1 := ⟨_, rfl⟩
            refine lv_iinc (v := v_48) (lv' := [(5, .int v_48), (4, .int v_2), (0, .ref mo), (1, .int n), (2, .int n2), (3, .int n3)]) hx hb dX12_fits_103 hl (k := 0) rfl (by rw [ev_48]; rfl) (by decide) rfl (fun ls hl => ?_)
            have q_49 : v_48.toInt = x5_4.toInt + 1 := by have := ow_add ev_48 (by omega) (by omega); omega
            refine lv_goto (tgt := 12) hx hb dX12_fits_106 (by decide) ?_
            refine W.widen (k := 0) (n := 0) (Nat.le_of_ble_eq_true rfl) (Nat.le_of_ble_eq_true rfl) ?_
            exact ih_4 v_48 _ _ _ (by omega) (by omega) hP hS (lv_sub hl [0, 1, 2, 3, 4, 5] rfl)
          · have q_50 : v_44.toInt < n3.toInt := by have := (not_congr (ow_le _ _)).mp c_46; omega
            refine lv_aload_n hx hb dX12_fits_81 rfl (lv_at hl 2 rfl) ?_
            refine lv_iload_n hx hb dX12_fits_82 rfl (lv_at hl 3 rfl) ?_
            refine lv_iload hx hb dX12_fits_83 (lv_at hl 1 rfl) ?_
            refine lv_iload hx hb dX12_fits_85 (lv_at hl 0 rfl) ?_
            refine lv_iadd hx hb dX12_fits_87 ?_
            refine lv_topi (fun v_51 ev_51 => ?_)
            have q_52 : v_51.toInt = v_2.toInt + x5_4.toInt := ow_add ev_51 (by omega) (by omega)
            have hFc := fr_new hS hA
            refine va_calli (va_runV (As := [.int n, .int v_51]) (rest := []) ⟨hx, hb, hml, hown, ht⟩ (m_stepOf l G cy _ mo h T v nm f g n v_51  hv hf hR hL (by omega) (by omega)) (cwV 2 ht (gv k_71 k_72 k_73 k_61 k_70) rfl rfl rfl (by decide +kernel) ⟨Nat.le_of_ble_eq_true rfl, Nat.le_of_ble_eq_true rfl⟩) ⟨En.blind, va_recv hK hP (ci := 12) (q0 := 0) rfl rfl, fun U hU hW => ⟨rfl, En.of hU hW hP hK hD0 hN⟩⟩ rfl rfl hl.1 rfl (lv_room (Nat.le_of_ble_eq_true rfl)) dX12_fits_88 ⟨Nat.le_of_ble_eq_true rfl, Nat.le_of_ble_eq_true rfl⟩) hS (fun q _ h => hFc q h) hFc (fun r_u_53 u_53 t9 H locs ht9 hvm hw hB hz1 hk1 hS => ?_)
            have hP := fr_keep hP hk1
            have wu_53 := hw
            clear hFc hk1 hz1 hB hw
            refine lv_aload_n hx hb dX12_fits_91 rfl (lv_at hl 2 rfl) ?_
            refine lv_iload_n hx hb dX12_fits_92 rfl (lv_at hl 4 rfl) ?_
            refine lv_iload hx hb dX12_fits_93 (lv_at hl 0 rfl) ?_
            have hFc := fr_new hS hA
            refine va_calli (va_runV (As := [.int n2, .int x5_4]) (rest := [.int r_u_53]) ⟨hx, hb, hml, hown, ht⟩ (m_stepOf l G cy _ mo h T v nm f g n2 x5_4  hv hf hR hL (by omega) (by omega)) (cwV 2 ht (gv k_71 k_72 k_73 k_61 k_70) rfl rfl rfl (by decide +kernel) ⟨Nat.le_of_ble_eq_true rfl, Nat.le_of_ble_eq_true rfl⟩) ⟨En.blind, va_recv hK hP (ci := 12) (q0 := 0) rfl rfl, fun U hU hW => ⟨rfl, En.of hU hW hP hK hD0 hN⟩⟩ rfl rfl hl.1 rfl (lv_room (Nat.le_of_ble_eq_true rfl)) dX12_fits_95 ⟨Nat.le_of_ble_eq_true rfl, Nat.le_of_ble_eq_true rfl⟩) hS (fun q _ h => hFc q h) hFc (fun r_u_54 u_54 t9 H locs ht9 hvm hw hB hz1 hk1 hS => ?_)
            have hP := fr_keep hP hk1
            have wu_54 := hw
            clear hFc hk1 hz1 hB hw
            refine lv_icmp_eq (tgt := 103) hx hb dX12_fits_98 (by decide) (fun c_55 => ?_) (fun c_55 => ?_)
            · have q_56 : r_u_53.toInt = r_u_54.toInt := (ow_eq _ _).mp c_55
              obtain ⟨v_57, ev_57⟩ : ∃ y : Int32, y = x5_4 + 1 := ⟨_, rfl⟩
              refine lv_iinc (v := v_57) (lv' := [(5, .int v_57), (4, .int v_2), (0, .ref mo), (1, .int n), (2, .int n2), (3, .int n3)]) hx hb dX12_fits_103 hl (k := 0) rfl (by rw [ev_57]; rfl) (by decide) rfl (fun ls hl => ?_)
              have q_58 : v_57.toInt = x5_4.toInt + 1 := by have := ow_add ev_57 (by omega) (by omega); omega
              refine lv_goto (tgt := 12) hx hb dX12_fits_106 (by decide) ?_
              refine W.widen (k := 0) (n := 0) (Nat.le_of_ble_eq_true rfl) (Nat.le_of_ble_eq_true rfl) ?_
              exact ih_4 v_57 _ _ _ (by omega) (by omega) hP hS (lv_sub hl [0, 1, 2, 3, 4, 5] rfl)
            · have q_59 : ¬ r_u_53.toInt = r_u_54.toInt := by have := (not_congr (ow_eq _ _)).mp c_55; omega
              refine lv_iconst (v := 0) hx hb dX12_fits_101 (by decide) ?_
              refine W.widen (k := 0) (n := 0) (Nat.le_of_ble_eq_true rfl) (Nat.le_of_ble_eq_true rfl) ?_
              exact W.zret (v := 0) hx hb hr rfl (fun t ht9 hW => ⟨⟨0, (), rfl, (by omega), trivial⟩, hS.F ht9⟩) hS.2.2 dX12_fits_102
        · have q_60 : ¬ v_24.toInt = v_41.toInt := by have := (not_congr (ow_eq _ _)).mp c_42; omega
          refine lv_iconst (v := 0) hx hb dX12_fits_71 (by decide) ?_
          refine W.widen (k := 0) (n := 0) (Nat.le_of_ble_eq_true rfl) (Nat.le_of_ble_eq_true rfl) ?_
          exact W.zret (v := 0) hx hb hr rfl (fun t ht9 hW => ⟨⟨0, (), rfl, (by omega), trivial⟩, hS.F ht9⟩) hS.2.2 dX12_fits_72
  exact lp_4 _ (0) _ _ _ (by omega) (Nat.lt_succ_self _) hP hS (lv_sub hl [0, 1, 2, 3, 4, 5] rfl)
set_option maxHeartbeats 4000000 in
set_option maxRecDepth 100000 in
theorem m_overlap (l : Launch) (G : va_G) (cy : Nat → ClassId) (sz : Nat) (mo : Nat) (h : Nat → Nat) (T : Int) (v : Nat → Int32) (nm : Int64) (f : Nat → Nat → Int32) (g : Nat → Nat → Int64) (n : Int32) (n2 : Int32)  (hv : MIv T v) (hf : MIf f) (hR : RI v f) (hL : WL v f) (h_n : 0 ≤ n.toInt ∧ n.toInt ≤ 13) (h_n2 : 0 ≤ n2.toInt ∧ n2.toInt ≤ 13) : Met l yX12_overlap (.code yX12_overlap cX12_overlap 6 (some .int) :: TBg) ({ frames := 3, cells := 0, slots := 0, locals := 192 }) (va_Pc [.ref mo, .int n, .int n2] (En G cy (WMs cy mo h v nm f g) sz)) (va_Qi (fun (r : Int32) (_ : Unit) => (-1 ≤ r.toInt ∧ r.toInt ≤ 11)) (fun _ _ => True) (va_A [] sz)) 0 0 (va_A [] sz) := by
  refine Met.ofW (cc := cX12_overlap) (maxL := 6) (ret := (some .int)) (by decide) rfl ?_
  intro p e s m args below meth c s₁ B hml hv9
  obtain ⟨rfl, hsz, hP, hK, hD0, hN⟩ := hv9
  have hx := B.exec
  have hb := B.bytes
  have hr := B.returns
  have hts := atoms_spec (ws := .code yX12_overlap cX12_overlap 6 (some .int) :: TBg) B.pre
  have ht : ∀ w ∈ TBg, w.before _ s = true := fun w h => hts w (List.mem_cons_of_mem _ h)
  have hown : s.vm.findClass RX12 = some m.cls := findClass_of_methodNamed B.named
  have hlocks := B.notSynchronized
  subst hsz
  generalize hAe : va_A [] s.heap.size = A at ⊢
  have hA : ∀ q : Nat, s.heap.size ≤ q → A q := fun q h => by rw [← hAe]; exact Or.inr h
  have hS : va_S A s.heap s.heap [] := va_S.rf
  have hl := lv_entry ([.ref mo, .int n, .int n2]) (n := 6) (Nat.le_of_ble_eq_true rfl)
  rw [lg_entry_eq]
  generalize (lg_sl ([.ref mo, .int n, .int n2]) ++ List.replicate (6 - (lg_sl ([.ref mo, .int n, .int n2])).length) Slot.unset).toArray = ls at hl ⊢
  have hl : lv_has ls 6 [(0, .ref mo), (1, .int n), (2, .int n2)] := hl
  have z0 : (-1 : Int32).toInt = -1 := by decide
  have z1 : (0 : Int32).toInt = 0 := by decide
  have z2 : (1 : Int32).toInt = 1 := by decide
  refine lv_aload_n hx hb dX12_overlap_0 rfl (lv_at hl 0 rfl) ?_
  refine lv_iload_n hx hb dX12_overlap_1 rfl (lv_at hl 1 rfl) ?_
  have hFc := fr_new hS hA
  refine va_calli (va_runV (As := [.int n]) (rest := []) ⟨hx, hb, hml, hown, ht⟩ (m_songOf l G cy _ mo h T v nm f g n  hv hf hR hL (by omega)) (cwV 1 ht (gv k_94 k_95 k_96 k_61 k_93) rfl rfl rfl (by decide +kernel) ⟨Nat.le_of_ble_eq_true rfl, Nat.le_of_ble_eq_true rfl⟩) ⟨En.blind, va_recv hK hP (ci := 12) (q0 := 0) rfl rfl, fun U hU hW => ⟨rfl, En.of hU hW hP hK hD0 hN⟩⟩ rfl rfl hl.1 rfl (lv_room (Nat.le_of_ble_eq_true rfl)) dX12_overlap_2 ⟨Nat.le_of_ble_eq_true rfl, Nat.le_of_ble_eq_true rfl⟩) hS (fun q _ h => hFc q h) hFc (fun r_u_1 u_1 t9 H locs ht9 hvm hw hB hz1 hk1 hS => ?_)
  have hP := fr_keep hP hk1
  have wu_1 := hw
  clear hFc hk1 hz1 hB hw
  refine lv_istore_n (lv' := [(3, .int r_u_1), (0, .ref mo), (1, .int n), (2, .int n2)]) hx hb dX12_overlap_5 rfl hl (by decide) rfl (fun ls hl => ?_)
  refine lv_aload_n hx hb dX12_overlap_6 rfl (lv_at hl 1 rfl) ?_
  refine lv_iload_n hx hb dX12_overlap_7 rfl (lv_at hl 3 rfl) ?_
  have hFc := fr_new hS hA
  refine va_calli (va_runV (As := [.int n2]) (rest := []) ⟨hx, hb, hml, hown, ht⟩ (m_songOf l G cy _ mo h T v nm f g n2  hv hf hR hL (by omega)) (cwV 1 ht (gv k_94 k_95 k_96 k_61 k_93) rfl rfl rfl (by decide +kernel) ⟨Nat.le_of_ble_eq_true rfl, Nat.le_of_ble_eq_true rfl⟩) ⟨En.blind, va_recv hK hP (ci := 12) (q0 := 0) rfl rfl, fun U hU hW => ⟨rfl, En.of hU hW hP hK hD0 hN⟩⟩ rfl rfl hl.1 rfl (lv_room (Nat.le_of_ble_eq_true rfl)) dX12_overlap_8 ⟨Nat.le_of_ble_eq_true rfl, Nat.le_of_ble_eq_true rfl⟩) hS (fun q _ h => hFc q h) hFc (fun r_u_2 u_2 t9 H locs ht9 hvm hw hB hz1 hk1 hS => ?_)
  have hP := fr_keep hP hk1
  have wu_2 := hw
  clear hFc hk1 hz1 hB hw
  refine lv_istore (lv' := [(4, .int r_u_2), (3, .int r_u_1), (0, .ref mo), (1, .int n), (2, .int n2)]) hx hb dX12_overlap_11 hl (by decide) rfl (fun ls hl => ?_)
  refine lv_aload_n hx hb dX12_overlap_13 rfl (lv_at hl 2 rfl) ?_
  refine lv_iload_n hx hb dX12_overlap_14 rfl (lv_at hl 1 rfl) ?_
  have hFc := fr_new hS hA
  refine va_calli (va_runV (As := [.int r_u_1]) (rest := []) ⟨hx, hb, hml, hown, ht⟩ (m_many27 l G cy _ mo h T v nm f g r_u_1  hv hf hR hL (by omega)) (cwV 1 ht (gv k_63 k_64 k_65 k_61 k_62) rfl rfl rfl (by decide +kernel) ⟨Nat.le_of_ble_eq_true rfl, Nat.le_of_ble_eq_true rfl⟩) ⟨En.blind, va_recv hK hP (ci := 12) (q0 := 0) rfl rfl, fun U hU hW => ⟨rfl, En.of hU hW hP hK hD0 hN⟩⟩ rfl rfl hl.1 rfl (lv_room (Nat.le_of_ble_eq_true rfl)) dX12_overlap_15 ⟨Nat.le_of_ble_eq_true rfl, Nat.le_of_ble_eq_true rfl⟩) hS (fun q _ h => hFc q h) hFc (fun r_u_3 u_3 t9 H locs ht9 hvm hw hB hz1 hk1 hS => ?_)
  have hP := fr_keep hP hk1
  have wu_3 := hw
  clear hFc hk1 hz1 hB hw
  refine lv_aload_n hx hb dX12_overlap_18 rfl (lv_at hl 2 rfl) ?_
  refine lv_iload hx hb dX12_overlap_19 (lv_at hl 0 rfl) ?_
  have hFc := fr_new hS hA
  refine va_calli (va_runV (As := [.int r_u_2]) (rest := [.int r_u_3]) ⟨hx, hb, hml, hown, ht⟩ (m_many27 l G cy _ mo h T v nm f g r_u_2  hv hf hR hL (by omega)) (cwV 1 ht (gv k_63 k_64 k_65 k_61 k_62) rfl rfl rfl (by decide +kernel) ⟨Nat.le_of_ble_eq_true rfl, Nat.le_of_ble_eq_true rfl⟩) ⟨En.blind, va_recv hK hP (ci := 12) (q0 := 0) rfl rfl, fun U hU hW => ⟨rfl, En.of hU hW hP hK hD0 hN⟩⟩ rfl rfl hl.1 rfl (lv_room (Nat.le_of_ble_eq_true rfl)) dX12_overlap_21 ⟨Nat.le_of_ble_eq_true rfl, Nat.le_of_ble_eq_true rfl⟩) hS (fun q _ h => hFc q h) hFc (fun r_u_4 u_4 t9 H locs ht9 hvm hw hB hz1 hk1 hS => ?_)
  have hP := fr_keep hP hk1
  have wu_4 := hw
  clear hFc hk1 hz1 hB hw
  refine lv_icmp_ge (tgt := 37) hx hb dX12_overlap_24 (by decide) (fun c_5 => ?_) (fun c_5 => ?_)
  · have q_6 : r_u_4.toInt ≤ r_u_3.toInt := (ow_le _ _).mp c_5
    refine lv_aload_n hx hb dX12_overlap_37 rfl (lv_at hl 2 rfl) ?_
    refine lv_iload hx hb dX12_overlap_38 (lv_at hl 0 rfl) ?_
    have hFc := fr_new hS hA
    refine va_calli (va_runV (As := [.int r_u_2]) (rest := []) ⟨hx, hb, hml, hown, ht⟩ (m_many27 l G cy _ mo h T v nm f g r_u_2  hv hf hR hL (by omega)) (cwV 1 ht (gv k_63 k_64 k_65 k_61 k_62) rfl rfl rfl (by decide +kernel) ⟨Nat.le_of_ble_eq_true rfl, Nat.le_of_ble_eq_true rfl⟩) ⟨En.blind, va_recv hK hP (ci := 12) (q0 := 0) rfl rfl, fun U hU hW => ⟨rfl, En.of hU hW hP hK hD0 hN⟩⟩ rfl rfl hl.1 rfl (lv_room (Nat.le_of_ble_eq_true rfl)) dX12_overlap_40 ⟨Nat.le_of_ble_eq_true rfl, Nat.le_of_ble_eq_true rfl⟩) hS (fun q _ h => hFc q h) hFc (fun r_u_7 u_7 t9 H locs ht9 hvm hw hB hz1 hk1 hS => ?_)
    have hP := fr_keep hP hk1
    have wu_7 := hw
    clear hFc hk1 hz1 hB hw
    refine lv_iconst (v := 1) hx hb dX12_overlap_43 (by decide) ?_
    refine lv_isub hx hb dX12_overlap_44 ?_
    refine lv_topi (fun v_8 ev_8 => ?_)
    have q_9 : v_8.toInt = r_u_7.toInt - (1 : Int32).toInt := ow_sub ev_8 (by omega) (by omega)
    refine lv_istore (lv' := [(5, .int v_8), (4, .int r_u_2), (3, .int r_u_1), (0, .ref mo), (1, .int n), (2, .int n2)]) hx hb dX12_overlap_45 hl (by decide) rfl (fun ls hl => ?_)
    refine W.widen (k := 0) (n := 0) (Nat.le_of_ble_eq_true rfl) (Nat.le_of_ble_eq_true rfl) ?_
    have lp_10 : ∀ (N : Nat) (x5_10 : Int32) (H : Heap) (locs : List Loc) (ls : Array Slot), (-1 ≤ x5_10.toInt ∧ x5_10.toInt ≤ 11) → x5_10.toInt < (f 15 (Int32.toNatClampNeg r_u_1)).toInt → (x5_10.toInt + 1).toNat < N → va_P G vwCl (WMs cy mo h v nm f g) H → va_S A s.heap H locs → lv_has ls 6 [(5, .int x5_10), (4, .int r_u_2), (3, .int r_u_1), (0, .ref mo), (1, .int n), (2, .int n2)] → W p l e (headSpec (.code yX12_overlap cX12_overlap 6 (some .int) :: TBg) ({ frames := 3, cells := 0, slots := 0, locals := 192 })).room s m ([.ref mo, .int n, .int n2] : List Value).toArray below meth c H locs 0 0 (MQ below (va_Qi (fun (r : Int32) (_ : Unit) => (-1 ≤ r.toInt ∧ r.toInt ≤ 11)) (fun _ _ => True) A) ([.ref mo, .int n, .int n2] : List Value).toArray s 0 0 A) (F0 m 47 ls []) := by
      intro N
      induction N with
      | zero => intro x5_10 H locs ls qf10_0 qf10_1 hm hP hS hl; exact absurd hm (Nat.not_lt_zero _)
      | succ N ih_10 =>
        intro x5_10 H locs ls qf10_0 qf10_1 hm hP hS hl
        refine lv_iload hx hb dX12_overlap_47 (lv_at hl 0 rfl) ?_
        refine lv_iconst (v := 1) hx hb dX12_overlap_49 (by decide) ?_
        refine lv_icmp_le (tgt := 71) hx hb dX12_overlap_50 (by decide) (fun c_11 => ?_) (fun c_11 => ?_)
        · have q_12 : x5_10.toInt ≤ (1 : Int32).toInt := (ow_le _ _).mp c_11
          refine lv_iload hx hb dX12_overlap_71 (lv_at hl 0 rfl) ?_
          refine W.widen (k := 0) (n := 0) (Nat.le_of_ble_eq_true rfl) (Nat.le_of_ble_eq_true rfl) ?_
          exact W.iret (v := x5_10) hx hb hr (fun t ht9 hW => ⟨⟨x5_10, (), rfl, (by omega), trivial⟩, hS.F ht9⟩) hS.2.2 dX12_overlap_73
        · have q_13 : (1 : Int32).toInt < x5_10.toInt := by have := (not_congr (ow_le _ _)).mp c_11; omega
          refine lv_aload_n hx hb dX12_overlap_53 rfl (lv_at hl 3 rfl) ?_
          refine lv_iload_n hx hb dX12_overlap_54 rfl (lv_at hl 2 rfl) ?_
          refine lv_iload hx hb dX12_overlap_55 (lv_at hl 1 rfl) ?_
          refine lv_iload hx hb dX12_overlap_57 (lv_at hl 0 rfl) ?_
          have hFc := fr_new hS hA
          refine va_calli (va_runV (As := [.int r_u_1, .int r_u_2, .int x5_10]) (rest := []) ⟨hx, hb, hml, hown, ht⟩ (m_fits l G cy _ mo h T v nm f g r_u_1 r_u_2 x5_10  hv hf hR hL (by omega) (by omega) (by omega) (show x5_10.toInt < (f 15 (Int32.toNatClampNeg r_u_1)).toInt from by omega)) (cwV 3 ht (gv k_103 k_104 k_105 k_61 k_102) rfl rfl rfl (by decide +kernel) ⟨Nat.le_of_ble_eq_true rfl, Nat.le_of_ble_eq_true rfl⟩) ⟨En.blind, va_recv hK hP (ci := 12) (q0 := 0) rfl rfl, fun U hU hW => ⟨rfl, En.of hU hW hP hK hD0 hN⟩⟩ rfl rfl hl.1 rfl (lv_room (Nat.le_of_ble_eq_true rfl)) dX12_overlap_59 ⟨Nat.le_of_ble_eq_true rfl, Nat.le_of_ble_eq_true rfl⟩) hS (fun q _ h => hFc q h) hFc (fun r_u_14 u_14 t9 H locs ht9 hvm hw hB hz1 hk1 hS => ?_)
          have hP := fr_keep hP hk1
          have wu_14 := hw
          clear hFc hk1 hz1 hB hw
          refine lv_if_ne (tgt := 71) hx hb dX12_overlap_62 (by decide) (fun c_15 => ?_) (fun c_15 => ?_)
          · have q_16 : ¬ r_u_14.toInt = (0 : Int32).toInt := by have := (not_congr (ow_eq _ _)).mp c_15; omega
            refine lv_iload hx hb dX12_overlap_71 (lv_at hl 0 rfl) ?_
            refine W.widen (k := 0) (n := 0) (Nat.le_of_ble_eq_true rfl) (Nat.le_of_ble_eq_true rfl) ?_
            exact W.iret (v := x5_10) hx hb hr (fun t ht9 hW => ⟨⟨x5_10, (), rfl, (by omega), trivial⟩, hS.F ht9⟩) hS.2.2 dX12_overlap_73
          · have q_17 : r_u_14.toInt = (0 : Int32).toInt := (ow_eq _ _).mp c_15
            obtain ⟨v_18, ev_18⟩ : ∃ y : Int32, y = x5_10 + (-1) := ⟨_, rfl⟩
            refine lv_iinc (v := v_18) (lv' := [(5, .int v_18), (4, .int r_u_2), (3, .int r_u_1), (0, .ref mo), (1, .int n), (2, .int n2)]) hx hb dX12_overlap_65 hl (k := 0) rfl (by rw [ev_18]; rfl) (by decide) rfl (fun ls hl => ?_)
            have q_19 : v_18.toInt = x5_10.toInt + -1 := by have := ow_add ev_18 (by omega) (by omega); omega
            refine lv_goto (tgt := 47) hx hb dX12_overlap_68 (by decide) ?_
            refine W.widen (k := 0) (n := 0) (Nat.le_of_ble_eq_true rfl) (Nat.le_of_ble_eq_true rfl) ?_
            exact ih_10 v_18 _ _ _ (by omega) (by omega) (by omega) hP hS (lv_sub hl [0, 1, 2, 3, 4, 5] rfl)
    exact lp_10 _ v_8 _ _ _ (by omega) (by omega) (Nat.lt_succ_self _) hP hS (lv_sub hl [0, 1, 2, 3, 4, 5] rfl)
  · have q_20 : r_u_3.toInt < r_u_4.toInt := by have := (not_congr (ow_le _ _)).mp c_5; omega
    refine lv_aload_n hx hb dX12_overlap_27 rfl (lv_at hl 2 rfl) ?_
    refine lv_iload_n hx hb dX12_overlap_28 rfl (lv_at hl 1 rfl) ?_
    have hFc := fr_new hS hA
    refine va_calli (va_runV (As := [.int r_u_1]) (rest := []) ⟨hx, hb, hml, hown, ht⟩ (m_many27 l G cy _ mo h T v nm f g r_u_1  hv hf hR hL (by omega)) (cwV 1 ht (gv k_63 k_64 k_65 k_61 k_62) rfl rfl rfl (by decide +kernel) ⟨Nat.le_of_ble_eq_true rfl, Nat.le_of_ble_eq_true rfl⟩) ⟨En.blind, va_recv hK hP (ci := 12) (q0 := 0) rfl rfl, fun U hU hW => ⟨rfl, En.of hU hW hP hK hD0 hN⟩⟩ rfl rfl hl.1 rfl (lv_room (Nat.le_of_ble_eq_true rfl)) dX12_overlap_29 ⟨Nat.le_of_ble_eq_true rfl, Nat.le_of_ble_eq_true rfl⟩) hS (fun q _ h => hFc q h) hFc (fun r_u_21 u_21 t9 H locs ht9 hvm hw hB hz1 hk1 hS => ?_)
    have hP := fr_keep hP hk1
    have wu_21 := hw
    clear hFc hk1 hz1 hB hw
    refine lv_iconst (v := 1) hx hb dX12_overlap_32 (by decide) ?_
    refine lv_isub hx hb dX12_overlap_33 ?_
    refine lv_topi (fun v_22 ev_22 => ?_)
    have q_23 : v_22.toInt = r_u_21.toInt - (1 : Int32).toInt := ow_sub ev_22 (by omega) (by omega)
    refine lv_goto (tgt := 45) hx hb dX12_overlap_34 (by decide) ?_
    refine lv_istore (lv' := [(5, .int v_22), (4, .int r_u_2), (3, .int r_u_1), (0, .ref mo), (1, .int n), (2, .int n2)]) hx hb dX12_overlap_45 hl (by decide) rfl (fun ls hl => ?_)
    refine W.widen (k := 0) (n := 0) (Nat.le_of_ble_eq_true rfl) (Nat.le_of_ble_eq_true rfl) ?_
    have lp_24 : ∀ (N : Nat) (x5_24 : Int32) (H : Heap) (locs : List Loc) (ls : Array Slot), (-1 ≤ x5_24.toInt ∧ x5_24.toInt ≤ 11) → x5_24.toInt < (f 15 (Int32.toNatClampNeg r_u_1)).toInt → (x5_24.toInt + 1).toNat < N → va_P G vwCl (WMs cy mo h v nm f g) H → va_S A s.heap H locs → lv_has ls 6 [(5, .int x5_24), (4, .int r_u_2), (3, .int r_u_1), (0, .ref mo), (1, .int n), (2, .int n2)] → W p l e (headSpec (.code yX12_overlap cX12_overlap 6 (some .int) :: TBg) ({ frames := 3, cells := 0, slots := 0, locals := 192 })).room s m ([.ref mo, .int n, .int n2] : List Value).toArray below meth c H locs 0 0 (MQ below (va_Qi (fun (r : Int32) (_ : Unit) => (-1 ≤ r.toInt ∧ r.toInt ≤ 11)) (fun _ _ => True) A) ([.ref mo, .int n, .int n2] : List Value).toArray s 0 0 A) (F0 m 47 ls []) := by
      intro N
      induction N with
      | zero => intro x5_24 H locs ls qf24_0 qf24_1 hm hP hS hl; exact absurd hm (Nat.not_lt_zero _)
      | succ N ih_24 =>
        intro x5_24 H locs ls qf24_0 qf24_1 hm hP hS hl
        refine lv_iload hx hb dX12_overlap_47 (lv_at hl 0 rfl) ?_
        refine lv_iconst (v := 1) hx hb dX12_overlap_49 (by decide) ?_
        refine lv_icmp_le (tgt := 71) hx hb dX12_overlap_50 (by decide) (fun c_25 => ?_) (fun c_25 => ?_)
        · have q_26 : x5_24.toInt ≤ (1 : Int32).toInt := (ow_le _ _).mp c_25
          refine lv_iload hx hb dX12_overlap_71 (lv_at hl 0 rfl) ?_
          refine W.widen (k := 0) (n := 0) (Nat.le_of_ble_eq_true rfl) (Nat.le_of_ble_eq_true rfl) ?_
          exact W.iret (v := x5_24) hx hb hr (fun t ht9 hW => ⟨⟨x5_24, (), rfl, (by omega), trivial⟩, hS.F ht9⟩) hS.2.2 dX12_overlap_73
        · have q_27 : (1 : Int32).toInt < x5_24.toInt := by have := (not_congr (ow_le _ _)).mp c_25; omega
          refine lv_aload_n hx hb dX12_overlap_53 rfl (lv_at hl 3 rfl) ?_
          refine lv_iload_n hx hb dX12_overlap_54 rfl (lv_at hl 2 rfl) ?_
          refine lv_iload hx hb dX12_overlap_55 (lv_at hl 1 rfl) ?_
          refine lv_iload hx hb dX12_overlap_57 (lv_at hl 0 rfl) ?_
          have hFc := fr_new hS hA
          refine va_calli (va_runV (As := [.int r_u_1, .int r_u_2, .int x5_24]) (rest := []) ⟨hx, hb, hml, hown, ht⟩ (m_fits l G cy _ mo h T v nm f g r_u_1 r_u_2 x5_24  hv hf hR hL (by omega) (by omega) (by omega) (show x5_24.toInt < (f 15 (Int32.toNatClampNeg r_u_1)).toInt from by omega)) (cwV 3 ht (gv k_103 k_104 k_105 k_61 k_102) rfl rfl rfl (by decide +kernel) ⟨Nat.le_of_ble_eq_true rfl, Nat.le_of_ble_eq_true rfl⟩) ⟨En.blind, va_recv hK hP (ci := 12) (q0 := 0) rfl rfl, fun U hU hW => ⟨rfl, En.of hU hW hP hK hD0 hN⟩⟩ rfl rfl hl.1 rfl (lv_room (Nat.le_of_ble_eq_true rfl)) dX12_overlap_59 ⟨Nat.le_of_ble_eq_true rfl, Nat.le_of_ble_eq_true rfl⟩) hS (fun q _ h => hFc q h) hFc (fun r_u_28 u_28 t9 H locs ht9 hvm hw hB hz1 hk1 hS => ?_)
          have hP := fr_keep hP hk1
          have wu_28 := hw
          clear hFc hk1 hz1 hB hw
          refine lv_if_ne (tgt := 71) hx hb dX12_overlap_62 (by decide) (fun c_29 => ?_) (fun c_29 => ?_)
          · have q_30 : ¬ r_u_28.toInt = (0 : Int32).toInt := by have := (not_congr (ow_eq _ _)).mp c_29; omega
            refine lv_iload hx hb dX12_overlap_71 (lv_at hl 0 rfl) ?_
            refine W.widen (k := 0) (n := 0) (Nat.le_of_ble_eq_true rfl) (Nat.le_of_ble_eq_true rfl) ?_
            exact W.iret (v := x5_24) hx hb hr (fun t ht9 hW => ⟨⟨x5_24, (), rfl, (by omega), trivial⟩, hS.F ht9⟩) hS.2.2 dX12_overlap_73
          · have q_31 : r_u_28.toInt = (0 : Int32).toInt := (ow_eq _ _).mp c_29
            obtain ⟨v_32, ev_32⟩ : ∃ y : Int32, y = x5_24 + (-1) := ⟨_, rfl⟩
            refine lv_iinc (v := v_32) (lv' := [(5, .int v_32), (4, .int r_u_2), (3, .int r_u_1), (0, .ref mo), (1, .int n), (2, .int n2)]) hx hb dX12_overlap_65 hl (k := 0) rfl (by rw [ev_32]; rfl) (by decide) rfl (fun ls hl => ?_)
            have q_33 : v_32.toInt = x5_24.toInt + -1 := by have := ow_add ev_32 (by omega) (by omega); omega
            refine lv_goto (tgt := 47) hx hb dX12_overlap_68 (by decide) ?_
            refine W.widen (k := 0) (n := 0) (Nat.le_of_ble_eq_true rfl) (Nat.le_of_ble_eq_true rfl) ?_
            exact ih_24 v_32 _ _ _ (by omega) (by omega) (by omega) hP hS (lv_sub hl [0, 1, 2, 3, 4, 5] rfl)
    exact lp_24 _ v_22 _ _ _ (by omega) (by omega) (Nat.lt_succ_self _) hP hS (lv_sub hl [0, 1, 2, 3, 4, 5] rfl)
set_option maxHeartbeats 4000000 in
set_option maxRecDepth 100000 in
theorem m_nearBy (l : Launch) (G : va_G) (cy : Nat → ClassId) (sz : Nat) (mo : Nat) (h : Nat → Nat) (T : Int) (v : Nat → Int32) (nm : Int64) (f : Nat → Nat → Int32) (g : Nat → Nat → Int64) (n : Int32) (n2 : Int32)  (hv : MIv T v) (hf : MIf f) (hR : RI v f) (hL : WL v f) (h_n : 0 ≤ n.toInt ∧ n.toInt ≤ 7) : Met l yX12_nearBy (.code yX12_nearBy cX12_nearBy 4 (some .int) :: TBg) ({ frames := 1, cells := 0, slots := 0, locals := 64 }) (va_Pc [.ref mo, .int n, .int n2] (En G cy (WMs cy mo h v nm f g) sz)) (va_Qi (fun (r : Int32) (_ : Unit) => True) (fun _ _ => True) (va_A [] sz)) 0 0 (va_A [] sz) := by
  refine Met.ofW (cc := cX12_nearBy) (maxL := 4) (ret := (some .int)) (by decide) rfl ?_
  intro p e s m args below meth c s₁ B hml hv9
  obtain ⟨rfl, hsz, hP, hK, hD0, hN⟩ := hv9
  have hx := B.exec
  have hb := B.bytes
  have hr := B.returns
  have hts := atoms_spec (ws := .code yX12_nearBy cX12_nearBy 4 (some .int) :: TBg) B.pre
  have ht : ∀ w ∈ TBg, w.before _ s = true := fun w h => hts w (List.mem_cons_of_mem _ h)
  have hown : s.vm.findClass RX12 = some m.cls := findClass_of_methodNamed B.named
  have hlocks := B.notSynchronized
  subst hsz
  generalize hAe : va_A [] s.heap.size = A at ⊢
  have hA : ∀ q : Nat, s.heap.size ≤ q → A q := fun q h => by rw [← hAe]; exact Or.inr h
  have hS : va_S A s.heap s.heap [] := va_S.rf
  have hl := lv_entry ([.ref mo, .int n, .int n2]) (n := 4) (Nat.le_of_ble_eq_true rfl)
  rw [lg_entry_eq]
  generalize (lg_sl ([.ref mo, .int n, .int n2]) ++ List.replicate (4 - (lg_sl ([.ref mo, .int n, .int n2])).length) Slot.unset).toArray = ls at hl ⊢
  have hl : lv_has ls 4 [(0, .ref mo), (1, .int n), (2, .int n2)] := hl
  have z0 : (8 : Int32).toInt = 8 := by decide
  have z1 : (20 : Int32).toInt = 20 := by decide
  refine lv_aload_n hx hb dX12_nearBy_0 rfl (lv_at hl 0 rfl) ?_
  refine mg_18 hx hb ht hown hK hP dX12_nearBy_1 ?_
  refine lv_bipush (v := 8) hx hb dX12_nearBy_4 (by decide) ?_
  refine lv_aload_n hx hb dX12_nearBy_6 rfl (lv_at hl 0 rfl) ?_
  refine mg_29 hx hb ht hown hK hP dX12_nearBy_7 ?_
  have q_1 : 0 ≤ (v 29).toInt ∧ (v 29).toInt ≤ 1 := hv 29
  refine lv_imul hx hb dX12_nearBy_10 ?_
  refine lv_topi (fun v_2 ev_2 => ?_)
  have q_3 : v_2.toInt = 8 * (v 29).toInt := ow_mul ev_2 (by decide) (by omega) (by omega)
  refine lv_iload_n hx hb dX12_nearBy_11 rfl (lv_at hl 1 rfl) ?_
  refine lv_iadd hx hb dX12_nearBy_12 ?_
  refine lv_topi (fun v_4 ev_4 => ?_)
  have q_5 : v_4.toInt = v_2.toInt + n.toInt := ow_add ev_4 (by omega) (by omega)
  have q_6 : vp_in v_4 16 := vp_in_iff.mpr ⟨by omega, by omega⟩
  refine ml_18 hx hb hK hP q_6 dX12_nearBy_13 ?_
  refine lv_topi (fun v_7 ev_7 => ?_)
  refine lv_iload_n hx hb dX12_nearBy_14 rfl (lv_at hl 2 rfl) ?_
  refine lv_iconst (v := 3) hx hb dX12_nearBy_15 (by decide) ?_
  refine lv_idiv hx hb dX12_nearBy_16 (by decide) ?_
  refine lv_topi (fun v_8 ev_8 => ?_)
  refine lv_iadd hx hb dX12_nearBy_17 ?_
  refine lv_topi (fun v_9 ev_9 => ?_)
  refine lv_istore_n (lv' := [(3, .int v_9), (0, .ref mo), (1, .int n), (2, .int n2)]) hx hb dX12_nearBy_18 rfl hl (by decide) rfl (fun ls hl => ?_)
  refine lv_iload_n hx hb dX12_nearBy_19 rfl (lv_at hl 0 rfl) ?_
  refine lv_bipush (v := 20) hx hb dX12_nearBy_20 (by decide) ?_
  refine lv_icmp_le (tgt := 30) hx hb dX12_nearBy_22 (by decide) (fun c_10 => ?_) (fun c_10 => ?_)
  · have q_11 : v_9.toInt ≤ (20 : Int32).toInt := (ow_le _ _).mp c_10
    refine lv_iload_n hx hb dX12_nearBy_30 rfl (lv_at hl 0 rfl) ?_
    refine W.widen (k := 0) (n := 0) (Nat.le_of_ble_eq_true rfl) (Nat.le_of_ble_eq_true rfl) ?_
    exact W.iret (v := v_9) hx hb hr (fun t ht9 hW => ⟨⟨v_9, (), rfl, trivial, trivial⟩, hS.F ht9⟩) hS.2.2 dX12_nearBy_31
  · have q_12 : (20 : Int32).toInt < v_9.toInt := by have := (not_congr (ow_le _ _)).mp c_10; omega
    refine lv_bipush (v := 20) hx hb dX12_nearBy_25 (by decide) ?_
    refine lv_goto (tgt := 31) hx hb dX12_nearBy_27 (by decide) ?_
    refine W.widen (k := 0) (n := 0) (Nat.le_of_ble_eq_true rfl) (Nat.le_of_ble_eq_true rfl) ?_
    exact W.iret (v := 20) hx hb hr (fun t ht9 hW => ⟨⟨20, (), rfl, trivial, trivial⟩, hS.F ht9⟩) hS.2.2 dX12_nearBy_31
set_option maxHeartbeats 4000000 in
set_option maxRecDepth 100000 in
theorem m_moved (l : Launch) (G : va_G) (cy : Nat → ClassId) (sz : Nat) (mo : Nat) (h : Nat → Nat) (T : Int) (v : Nat → Int32) (nm : Int64) (f : Nat → Nat → Int32) (g : Nat → Nat → Int64) (n : Int32) (n2 : Int32) (n3 : Int32) (n4 : Int32)  (hv : MIv T v) (hf : MIf f) (hR : RI v f) (hL : WL v f) (h_n : 0 ≤ n.toInt ∧ n.toInt ≤ 28) (h_n2 : 0 ≤ n2.toInt ∧ n2.toInt ≤ 79) : Met l yX12_moved (.code yX12_moved cX12_moved 5 (some .int) :: TBg) ({ frames := 1, cells := 0, slots := 0, locals := 64 }) (va_Pc [.ref mo, .int n, .int n2, .int n3, .int n4] (En G cy (WMs cy mo h v nm f g) sz)) (va_Qi (fun (r : Int32) (_ : Unit) => (-1 ≤ r.toInt ∧ r.toInt ≤ 1)) (fun _ _ => True) (va_A [] sz)) 0 0 (va_A [] sz) := by
  refine Met.ofW (cc := cX12_moved) (maxL := 5) (ret := (some .int)) (by decide) rfl ?_
  intro p e s m args below meth c s₁ B hml hv9
  obtain ⟨rfl, hsz, hP, hK, hD0, hN⟩ := hv9
  have hx := B.exec
  have hb := B.bytes
  have hr := B.returns
  have hts := atoms_spec (ws := .code yX12_moved cX12_moved 5 (some .int) :: TBg) B.pre
  have ht : ∀ w ∈ TBg, w.before _ s = true := fun w h => hts w (List.mem_cons_of_mem _ h)
  have hown : s.vm.findClass RX12 = some m.cls := findClass_of_methodNamed B.named
  have hlocks := B.notSynchronized
  subst hsz
  generalize hAe : va_A [] s.heap.size = A at ⊢
  have hA : ∀ q : Nat, s.heap.size ≤ q → A q := fun q h => by rw [← hAe]; exact Or.inr h
  have hS : va_S A s.heap s.heap [] := va_S.rf
  have hl := lv_entry ([.ref mo, .int n, .int n2, .int n3, .int n4]) (n := 5) (Nat.le_of_ble_eq_true rfl)
  rw [lg_entry_eq]
  generalize (lg_sl ([.ref mo, .int n, .int n2, .int n3, .int n4]) ++ List.replicate (5 - (lg_sl ([.ref mo, .int n, .int n2, .int n3, .int n4])).length) Slot.unset).toArray = ls at hl ⊢
  have hl : lv_has ls 5 [(0, .ref mo), (1, .int n), (2, .int n2), (3, .int n3), (4, .int n4)] := hl
  have z0 : (-1 : Int32).toInt = -1 := by decide
  have z1 : (0 : Int32).toInt = 0 := by decide
  have z2 : (1 : Int32).toInt = 1 := by decide
  have z3 : (40 : Int32).toInt = 40 := by decide
  refine lv_aload_n hx hb dX12_moved_0 rfl (lv_at hl 0 rfl) ?_
  refine mg_16 hx hb ht hown hK hP dX12_moved_1 ?_
  refine lv_bipush (v := 40) hx hb dX12_moved_4 (by decide) ?_
  refine lv_iload_n hx hb dX12_moved_6 rfl (lv_at hl 1 rfl) ?_
  refine lv_imul hx hb dX12_moved_7 ?_
  refine lv_topi (fun v_1 ev_1 => ?_)
  have q_2 : v_1.toInt = 40 * n.toInt := ow_mul ev_1 (by decide) (by omega) (by omega)
  refine lv_iload_n hx hb dX12_moved_8 rfl (lv_at hl 2 rfl) ?_
  refine lv_iadd hx hb dX12_moved_9 ?_
  refine lv_topi (fun v_3 ev_3 => ?_)
  have q_4 : v_3.toInt = v_1.toInt + n2.toInt := ow_add ev_3 (by omega) (by omega)
  have q_5 : vp_in v_3 1200 := vp_in_iff.mpr ⟨by omega, by omega⟩
  refine ml_16 hx hb hK hP q_5 dX12_moved_10 ?_
  refine lv_topi (fun v_6 ev_6 => ?_)
  refine lv_bipush (v := 12) hx hb dX12_moved_11 (by decide) ?_
  refine lv_irem hx hb dX12_moved_13 (by decide) ?_
  refine lv_topi (fun v_7 ev_7 => ?_)
  refine lv_iload hx hb dX12_moved_14 (lv_at hl 4 rfl) ?_
  refine lv_icmp_eq (tgt := 23) hx hb dX12_moved_16 (by decide) (fun c_8 => ?_) (fun c_8 => ?_)
  · have q_9 : v_7.toInt = n4.toInt := (ow_eq _ _).mp c_8
    refine lv_iload_n hx hb dX12_moved_23 rfl (lv_at hl 3 rfl) ?_
    refine lv_if_ne (tgt := 31) hx hb dX12_moved_24 (by decide) (fun c_10 => ?_) (fun c_10 => ?_)
    · have q_11 : ¬ n3.toInt = (0 : Int32).toInt := by have := (not_congr (ow_eq _ _)).mp c_10; omega
      refine lv_iconst (v := 1) hx hb dX12_moved_31 (by decide) ?_
      refine W.widen (k := 0) (n := 0) (Nat.le_of_ble_eq_true rfl) (Nat.le_of_ble_eq_true rfl) ?_
      exact W.iret (v := 1) hx hb hr (fun t ht9 hW => ⟨⟨1, (), rfl, (by omega), trivial⟩, hS.F ht9⟩) hS.2.2 dX12_moved_32
    · have q_12 : n3.toInt = (0 : Int32).toInt := (ow_eq _ _).mp c_10
      refine lv_iconst (v := (-1)) hx hb dX12_moved_27 (by decide) ?_
      refine lv_goto (tgt := 32) hx hb dX12_moved_28 (by decide) ?_
      refine W.widen (k := 0) (n := 0) (Nat.le_of_ble_eq_true rfl) (Nat.le_of_ble_eq_true rfl) ?_
      exact W.iret (v := (-1)) hx hb hr (fun t ht9 hW => ⟨⟨(-1), (), rfl, (by omega), trivial⟩, hS.F ht9⟩) hS.2.2 dX12_moved_32
  · have q_13 : ¬ v_7.toInt = n4.toInt := by have := (not_congr (ow_eq _ _)).mp c_8; omega
    refine lv_iconst (v := 0) hx hb dX12_moved_19 (by decide) ?_
    refine lv_goto (tgt := 32) hx hb dX12_moved_20 (by decide) ?_
    refine W.widen (k := 0) (n := 0) (Nat.le_of_ble_eq_true rfl) (Nat.le_of_ble_eq_true rfl) ?_
    exact W.iret (v := 0) hx hb hr (fun t ht9 hW => ⟨⟨0, (), rfl, (by omega), trivial⟩, hS.F ht9⟩) hS.2.2 dX12_moved_32
set_option maxHeartbeats 4000000 in
set_option maxRecDepth 100000 in
theorem m_deafAt (l : Launch) (G : va_G) (cy : Nat → ClassId) (sz : Nat) (mo : Nat) (h : Nat → Nat) (T : Int) (v : Nat → Int32) (nm : Int64) (f : Nat → Nat → Int32) (g : Nat → Nat → Int64) (n : Int32) (n2 : Int32) (n3 : Int32) (n4 : Int32)  (hv : MIv T v) (hf : MIf f) (hR : RI v f) (hL : WL v f) (h_n : 0 ≤ n.toInt ∧ n.toInt ≤ 27) (h_n2 : 0 ≤ n2.toInt ∧ n2.toInt ≤ 27) (h_n3 : 0 ≤ n3.toInt ∧ n3.toInt ≤ 40) : Met l yX12_deafAt (.code yX12_deafAt cX12_deafAt 12 (some .int) :: TBg) ({ frames := 2, cells := 0, slots := 0, locals := 128 }) (va_Pc [.ref mo, .int n, .int n2, .int n3, .int n4] (En G cy (WMs cy mo h v nm f g) sz)) (va_Qi (fun (r : Int32) (_ : Unit) => True) (fun _ _ => True) (va_A [] sz)) 0 0 (va_A [] sz) := by
  refine Met.ofW (cc := cX12_deafAt) (maxL := 12) (ret := (some .int)) (by decide) rfl ?_
  intro p e s m args below meth c s₁ B hml hv9
  obtain ⟨rfl, hsz, hP, hK, hD0, hN⟩ := hv9
  have hx := B.exec
  have hb := B.bytes
  have hr := B.returns
  have hts := atoms_spec (ws := .code yX12_deafAt cX12_deafAt 12 (some .int) :: TBg) B.pre
  have ht : ∀ w ∈ TBg, w.before _ s = true := fun w h => hts w (List.mem_cons_of_mem _ h)
  have hown : s.vm.findClass RX12 = some m.cls := findClass_of_methodNamed B.named
  have hlocks := B.notSynchronized
  subst hsz
  generalize hAe : va_A [] s.heap.size = A at ⊢
  have hA : ∀ q : Nat, s.heap.size ≤ q → A q := fun q h => by rw [← hAe]; exact Or.inr h
  have hS : va_S A s.heap s.heap [] := va_S.rf
  have hl := lv_entry ([.ref mo, .int n, .int n2, .int n3, .int n4]) (n := 12) (Nat.le_of_ble_eq_true rfl)
  rw [lg_entry_eq]
  generalize (lg_sl ([.ref mo, .int n, .int n2, .int n3, .int n4]) ++ List.replicate (12 - (lg_sl ([.ref mo, .int n, .int n2, .int n3, .int n4])).length) Slot.unset).toArray = ls at hl ⊢
  have hl : lv_has ls 12 [(0, .ref mo), (1, .int n), (2, .int n2), (3, .int n3), (4, .int n4)] := hl
  have z0 : (0 : Int32).toInt = 0 := by decide
  have z1 : (1 : Int32).toInt = 1 := by decide
  refine lv_iconst (v := 0) hx hb dX12_deafAt_0 (by decide) ?_
  refine lv_istore (lv' := [(5, .int 0), (0, .ref mo), (1, .int n), (2, .int n2), (3, .int n3), (4, .int n4)]) hx hb dX12_deafAt_1 hl (by decide) rfl (fun ls hl => ?_)
  refine lv_iconst (v := 0) hx hb dX12_deafAt_3 (by decide) ?_
  refine lv_istore (lv' := [(6, .int 0), (5, .int 0), (0, .ref mo), (1, .int n), (2, .int n2), (3, .int n3), (4, .int n4)]) hx hb dX12_deafAt_4 hl (by decide) rfl (fun ls hl => ?_)
  refine lv_iconst (v := 0) hx hb dX12_deafAt_6 (by decide) ?_
  refine lv_istore (lv' := [(7, .int 0), (6, .int 0), (5, .int 0), (0, .ref mo), (1, .int n), (2, .int n2), (3, .int n3), (4, .int n4)]) hx hb dX12_deafAt_7 hl (by decide) rfl (fun ls hl => ?_)
  refine W.widen (k := 0) (n := 0) (Nat.le_of_ble_eq_true rfl) (Nat.le_of_ble_eq_true rfl) ?_
  have lp_1 : ∀ (N : Nat) (x7_1 : Int32) (x6_1 : Int32) (x5_1 : Int32) (H : Heap) (locs : List Loc) (ls : Array Slot), (0 ≤ x7_1.toInt ∧ x7_1.toInt ≤ 12) → (12 - x7_1.toInt).toNat < N → va_P G vwCl (WMs cy mo h v nm f g) H → va_S A s.heap H locs → lv_has ls 12 [(7, .int x7_1), (6, .int x6_1), (5, .int x5_1), (0, .ref mo), (1, .int n), (2, .int n2), (3, .int n3), (4, .int n4)] → W p l e (headSpec (.code yX12_deafAt cX12_deafAt 12 (some .int) :: TBg) ({ frames := 2, cells := 0, slots := 0, locals := 128 })).room s m ([.ref mo, .int n, .int n2, .int n3, .int n4] : List Value).toArray below meth c H locs 0 0 (MQ below (va_Qi (fun (r : Int32) (_ : Unit) => True) (fun _ _ => True) A) ([.ref mo, .int n, .int n2, .int n3, .int n4] : List Value).toArray s 0 0 A) (F0 m 9 ls []) := by
    intro N
    induction N with
    | zero => intro x7_1 x6_1 x5_1 H locs ls qf1_0 hm hP hS hl; exact absurd hm (Nat.not_lt_zero _)
    | succ N ih_1 =>
      intro x7_1 x6_1 x5_1 H locs ls qf1_0 hm hP hS hl
      refine lv_iload hx hb dX12_deafAt_9 (lv_at hl 0 rfl) ?_
      refine lv_aload_n hx hb dX12_deafAt_11 rfl (lv_at hl 3 rfl) ?_
      refine lv_iload_n hx hb dX12_deafAt_12 rfl (lv_at hl 4 rfl) ?_
      have hFc := fr_new hS hA
      refine va_calli (va_runV (As := [.int n]) (rest := [.int x7_1]) ⟨hx, hb, hml, hown, ht⟩ (m_many27 l G cy _ mo h T v nm f g n  hv hf hR hL (by omega)) (cwV 1 ht (gv k_63 k_64 k_65 k_61 k_62) rfl rfl rfl (by decide +kernel) ⟨Nat.le_of_ble_eq_true rfl, Nat.le_of_ble_eq_true rfl⟩) ⟨En.blind, va_recv hK hP (ci := 12) (q0 := 0) rfl rfl, fun U hU hW => ⟨rfl, En.of hU hW hP hK hD0 hN⟩⟩ rfl rfl hl.1 rfl (lv_room (Nat.le_of_ble_eq_true rfl)) dX12_deafAt_13 ⟨Nat.le_of_ble_eq_true rfl, Nat.le_of_ble_eq_true rfl⟩) hS (fun q _ h => hFc q h) hFc (fun r_u_2 u_2 t9 H locs ht9 hvm hw hB hz1 hk1 hS => ?_)
      have hP := fr_keep hP hk1
      have wu_2 := hw
      clear hFc hk1 hz1 hB hw
      refine lv_icmp_ge (tgt := 248) hx hb dX12_deafAt_16 (by decide) (fun c_3 => ?_) (fun c_3 => ?_)
      · have q_4 : r_u_2.toInt ≤ x7_1.toInt := (ow_le _ _).mp c_3
        refine lv_iload hx hb dX12_deafAt_248 (lv_at hl 2 rfl) ?_
        refine lv_iload hx hb dX12_deafAt_250 (lv_at hl 1 rfl) ?_
        have hFc := fr_new hS hA
        refine va_calli (va_runS (As := [.int x5_1, .int x6_1]) (rest := []) ⟨hx, hb, hml, hown, ht⟩ (m_lower l G cy _  x5_1 x6_1  ) (va_cwS 2 ht (gs k_107 k_108 k_61 k_106) rfl rfl rfl (by decide +kernel) ⟨Nat.le_of_ble_eq_true rfl, Nat.le_of_ble_eq_true rfl⟩) ⟨En.blind, fun U hU hW => ⟨rfl, En.of hU hW (va_P0 (H := _)) hK va_D0 hN⟩⟩ rfl rfl hl.1 rfl (lv_room (Nat.le_of_ble_eq_true rfl)) dX12_deafAt_252 ⟨Nat.le_of_ble_eq_true rfl, Nat.le_of_ble_eq_true rfl⟩) hS (fun q _ h => hFc q h) hFc (fun r_u_5 u_5 t9 H locs ht9 hvm hw hB hz1 hk1 hS => ?_)
        have hP := fr_keep hP hk1
        have wu_5 := hw
        clear hFc hk1 hz1 hB hw
        refine W.widen (k := 0) (n := 0) (Nat.le_of_ble_eq_true rfl) (Nat.le_of_ble_eq_true rfl) ?_
        exact W.iret (v := r_u_5) hx hb hr (fun t ht9 hW => ⟨⟨r_u_5, (), rfl, trivial, trivial⟩, hS.F ht9⟩) hS.2.2 dX12_deafAt_255
      · have q_6 : x7_1.toInt < r_u_2.toInt := by have := (not_congr (ow_le _ _)).mp c_3; omega
        refine lv_aload_n hx hb dX12_deafAt_19 rfl (lv_at hl 3 rfl) ?_
        refine lv_iload_n hx hb dX12_deafAt_20 rfl (lv_at hl 4 rfl) ?_
        refine lv_iload_n hx hb dX12_deafAt_21 rfl (lv_at hl 5 rfl) ?_
        refine lv_iload_n hx hb dX12_deafAt_22 rfl (lv_at hl 6 rfl) ?_
        refine lv_iload hx hb dX12_deafAt_23 (lv_at hl 0 rfl) ?_
        have hFc := fr_new hS hA
        refine va_calli (va_runV (As := [.int n, .int n2, .int n3, .int x7_1]) (rest := []) ⟨hx, hb, hml, hown, ht⟩ (m_isOut l G cy _ mo h T v nm f g n n2 n3 x7_1  hv hf hR hL (by omega) (by omega) (by omega) (by omega)) (cwV 4 ht (gv k_67 k_68 k_69 k_61 k_66) rfl rfl rfl (by decide +kernel) ⟨Nat.le_of_ble_eq_true rfl, Nat.le_of_ble_eq_true rfl⟩) ⟨En.blind, va_recv hK hP (ci := 12) (q0 := 0) rfl rfl, fun U hU hW => ⟨rfl, En.of hU hW hP hK hD0 hN⟩⟩ rfl rfl hl.1 rfl (lv_room (Nat.le_of_ble_eq_true rfl)) dX12_deafAt_25 ⟨Nat.le_of_ble_eq_true rfl, Nat.le_of_ble_eq_true rfl⟩) hS (fun q _ h => hFc q h) hFc (fun r_u_7 u_7 t9 H locs ht9 hvm hw hB hz1 hk1 hS => ?_)
        have hP := fr_keep hP hk1
        have wu_7 := hw
        clear hFc hk1 hz1 hB hw
        refine lv_if_eq (tgt := 35) hx hb dX12_deafAt_28 (by decide) (fun c_8 => ?_) (fun c_8 => ?_)
        · have q_9 : r_u_7.toInt = (0 : Int32).toInt := (ow_eq _ _).mp c_8
          refine lv_iconst (v := 0) hx hb dX12_deafAt_35 (by decide) ?_
          refine lv_istore (lv' := [(8, .int 0), (7, .int x7_1), (6, .int x6_1), (5, .int x5_1), (0, .ref mo), (1, .int n), (2, .int n2), (3, .int n3), (4, .int n4)]) hx hb dX12_deafAt_36 hl (by decide) rfl (fun ls hl => ?_)
          refine lv_iload hx hb dX12_deafAt_38 (lv_at hl 0 rfl) ?_
          refine lv_istore (lv' := [(9, .int 0), (8, .int 0), (7, .int x7_1), (6, .int x6_1), (5, .int x5_1), (0, .ref mo), (1, .int n), (2, .int n2), (3, .int n3), (4, .int n4)]) hx hb dX12_deafAt_40 hl (by decide) rfl (fun ls hl => ?_)
          refine lv_iload hx hb dX12_deafAt_42 (lv_at hl 1 rfl) ?_
          refine lv_istore (lv' := [(10, .int 0), (9, .int 0), (8, .int 0), (7, .int x7_1), (6, .int x6_1), (5, .int x5_1), (0, .ref mo), (1, .int n), (2, .int n2), (3, .int n3), (4, .int n4)]) hx hb dX12_deafAt_44 hl (by decide) rfl (fun ls hl => ?_)
          refine lv_iload hx hb dX12_deafAt_46 (lv_at hl 3 rfl) ?_
          refine lv_if_le (tgt := 234) hx hb dX12_deafAt_48 (by decide) (fun c_10 => ?_) (fun c_10 => ?_)
          · have q_11 : x7_1.toInt ≤ (0 : Int32).toInt := (ow_le _ _).mp c_10
            refine lv_iload hx hb dX12_deafAt_234 (lv_at hl 1 rfl) ?_
            refine lv_istore (lv' := [(5, .int 0), (10, .int 0), (9, .int 0), (8, .int 0), (7, .int x7_1), (6, .int x6_1), (0, .ref mo), (1, .int n), (2, .int n2), (3, .int n3), (4, .int n4)]) hx hb dX12_deafAt_236 hl (by decide) rfl (fun ls hl => ?_)
            refine lv_iload hx hb dX12_deafAt_238 (lv_at hl 1 rfl) ?_
            refine lv_istore (lv' := [(6, .int 0), (5, .int 0), (10, .int 0), (9, .int 0), (8, .int 0), (7, .int x7_1), (0, .ref mo), (1, .int n), (2, .int n2), (3, .int n3), (4, .int n4)]) hx hb dX12_deafAt_240 hl (by decide) rfl (fun ls hl => ?_)
            obtain ⟨v_12, ev_12⟩ : ∃ y : Int32, y = x7_1 + 1 := ⟨_, rfl⟩
            refine lv_iinc (v := v_12) (lv' := [(7, .int v_12), (6, .int 0), (5, .int 0), (10, .int 0), (9, .int 0), (8, .int 0), (0, .ref mo), (1, .int n), (2, .int n2), (3, .int n3), (4, .int n4)]) hx hb dX12_deafAt_242 hl (k := 5) rfl (by rw [ev_12]; rfl) (by decide) rfl (fun ls hl => ?_)
            have q_13 : v_12.toInt = x7_1.toInt + 1 := by have := ow_add ev_12 (by omega) (by omega); omega
            refine lv_goto (tgt := 9) hx hb dX12_deafAt_245 (by decide) ?_
            refine W.widen (k := 0) (n := 0) (Nat.le_of_ble_eq_true rfl) (Nat.le_of_ble_eq_true rfl) ?_
            exact ih_1 v_12 (0) (0) _ _ _ (by omega) (by omega) hP hS (lv_sub hl [0, 1, 2, 6, 7, 8, 9, 10] rfl)
          · have q_14 : (0 : Int32).toInt < x7_1.toInt := by have := (not_congr (ow_le _ _)).mp c_10; omega
            refine lv_aload_n hx hb dX12_deafAt_51 rfl (lv_at hl 6 rfl) ?_
            refine lv_iload_n hx hb dX12_deafAt_52 rfl (lv_at hl 8 rfl) ?_
            refine lv_iload_n hx hb dX12_deafAt_53 rfl (lv_at hl 9 rfl) ?_
            refine lv_iload hx hb dX12_deafAt_54 (lv_at hl 3 rfl) ?_
            refine lv_iadd hx hb dX12_deafAt_56 ?_
            refine lv_topi (fun v_15 ev_15 => ?_)
            have q_16 : v_15.toInt = n3.toInt + x7_1.toInt := ow_add ev_15 (by omega) (by omega)
            refine lv_iconst (v := 1) hx hb dX12_deafAt_57 (by decide) ?_
            refine lv_isub hx hb dX12_deafAt_58 ?_
            refine lv_topi (fun v_17 ev_17 => ?_)
            have q_18 : v_17.toInt = v_15.toInt - (1 : Int32).toInt := ow_sub ev_17 (by omega) (by omega)
            have hFc := fr_new hS hA
            refine va_calli (va_runV (As := [.int n2, .int v_17]) (rest := []) ⟨hx, hb, hml, hown, ht⟩ (m_stepOf l G cy _ mo h T v nm f g n2 v_17  hv hf hR hL (by omega) (by omega)) (cwV 2 ht (gv k_71 k_72 k_73 k_61 k_70) rfl rfl rfl (by decide +kernel) ⟨Nat.le_of_ble_eq_true rfl, Nat.le_of_ble_eq_true rfl⟩) ⟨En.blind, va_recv hK hP (ci := 12) (q0 := 0) rfl rfl, fun U hU hW => ⟨rfl, En.of hU hW hP hK hD0 hN⟩⟩ rfl rfl hl.1 rfl (lv_room (Nat.le_of_ble_eq_true rfl)) dX12_deafAt_59 ⟨Nat.le_of_ble_eq_true rfl, Nat.le_of_ble_eq_true rfl⟩) hS (fun q _ h => hFc q h) hFc (fun r_u_19 u_19 t9 H locs ht9 hvm hw hB hz1 hk1 hS => ?_)
            have hP := fr_keep hP hk1
            have wu_19 := hw
            clear hFc hk1 hz1 hB hw
            refine lv_aload_n hx hb dX12_deafAt_62 rfl (lv_at hl 6 rfl) ?_
            refine lv_iload_n hx hb dX12_deafAt_63 rfl (lv_at hl 7 rfl) ?_
            refine lv_iload hx hb dX12_deafAt_64 (lv_at hl 3 rfl) ?_
            refine lv_iconst (v := 1) hx hb dX12_deafAt_66 (by decide) ?_
            refine lv_isub hx hb dX12_deafAt_67 ?_
            refine lv_topi (fun v_20 ev_20 => ?_)
            have q_21 : v_20.toInt = x7_1.toInt - (1 : Int32).toInt := ow_sub ev_20 (by omega) (by omega)
            have hFc := fr_new hS hA
            refine va_calli (va_runV (As := [.int n, .int v_20]) (rest := [.int r_u_19]) ⟨hx, hb, hml, hown, ht⟩ (m_stepOf l G cy _ mo h T v nm f g n v_20  hv hf hR hL (by omega) (by omega)) (cwV 2 ht (gv k_71 k_72 k_73 k_61 k_70) rfl rfl rfl (by decide +kernel) ⟨Nat.le_of_ble_eq_true rfl, Nat.le_of_ble_eq_true rfl⟩) ⟨En.blind, va_recv hK hP (ci := 12) (q0 := 0) rfl rfl, fun U hU hW => ⟨rfl, En.of hU hW hP hK hD0 hN⟩⟩ rfl rfl hl.1 rfl (lv_room (Nat.le_of_ble_eq_true rfl)) dX12_deafAt_68 ⟨Nat.le_of_ble_eq_true rfl, Nat.le_of_ble_eq_true rfl⟩) hS (fun q _ h => hFc q h) hFc (fun r_u_22 u_22 t9 H locs ht9 hvm hw hB hz1 hk1 hS => ?_)
            have hP := fr_keep hP hk1
            have wu_22 := hw
            clear hFc hk1 hz1 hB hw
            refine lv_isub hx hb dX12_deafAt_71 ?_
            refine lv_topi (fun v_23 ev_23 => ?_)
            refine lv_istore (lv' := [(11, .int v_23), (10, .int 0), (9, .int 0), (8, .int 0), (7, .int x7_1), (6, .int x6_1), (5, .int x5_1), (0, .ref mo), (1, .int n), (2, .int n2), (3, .int n3), (4, .int n4)]) hx hb dX12_deafAt_72 hl (by decide) rfl (fun ls hl => ?_)
            refine lv_iload hx hb dX12_deafAt_74 (lv_at hl 2 rfl) ?_
            refine lv_iload hx hb dX12_deafAt_76 (lv_at hl 6 rfl) ?_
            refine lv_iload hx hb dX12_deafAt_78 (lv_at hl 0 rfl) ?_
            refine lv_aload_n hx hb dX12_deafAt_80 rfl (lv_at hl 7 rfl) ?_
            refine lv_iload_n hx hb dX12_deafAt_81 rfl (lv_at hl 9 rfl) ?_
            refine lv_iload_n hx hb dX12_deafAt_82 rfl (lv_at hl 10 rfl) ?_
            refine lv_iload hx hb dX12_deafAt_83 (lv_at hl 4 rfl) ?_
            refine lv_iadd hx hb dX12_deafAt_85 ?_
            refine lv_topi (fun v_24 ev_24 => ?_)
            have q_25 : v_24.toInt = n3.toInt + x7_1.toInt := ow_add ev_24 (by omega) (by omega)
            refine lv_iconst (v := 0) hx hb dX12_deafAt_86 (by decide) ?_
            refine lv_iload hx hb dX12_deafAt_87 (lv_at hl 11 rfl) ?_
            have hFc := fr_new hS hA
            refine va_calli (va_runV (As := [.int n2, .int v_24, .int 0, .int n4]) (rest := [.int v_23, .int x5_1, .int 0]) ⟨hx, hb, hml, hown, ht⟩ (m_moved l G cy _ mo h T v nm f g n2 v_24 (0) n4  hv hf hR hL (by omega) (by omega)) (cwV 4 ht (gv k_110 k_111 k_112 k_61 k_109) rfl rfl rfl (by decide +kernel) ⟨Nat.le_of_ble_eq_true rfl, Nat.le_of_ble_eq_true rfl⟩) ⟨En.blind, va_recv hK hP (ci := 12) (q0 := 0) rfl rfl, fun U hU hW => ⟨rfl, En.of hU hW hP hK hD0 hN⟩⟩ rfl rfl hl.1 rfl (lv_room (Nat.le_of_ble_eq_true rfl)) dX12_deafAt_89 ⟨Nat.le_of_ble_eq_true rfl, Nat.le_of_ble_eq_true rfl⟩) hS (fun q _ h => hFc q h) hFc (fun r_u_26 u_26 t9 H locs ht9 hvm hw hB hz1 hk1 hS => ?_)
            have hP := fr_keep hP hk1
            have wu_26 := hw
            clear hFc hk1 hz1 hB hw
            refine lv_iadd hx hb dX12_deafAt_92 ?_
            refine lv_topi (fun v_27 ev_27 => ?_)
            refine lv_aload_n hx hb dX12_deafAt_93 rfl (lv_at hl 7 rfl) ?_
            refine lv_iload_n hx hb dX12_deafAt_94 rfl (lv_at hl 9 rfl) ?_
            refine lv_iload_n hx hb dX12_deafAt_95 rfl (lv_at hl 10 rfl) ?_
            refine lv_iload hx hb dX12_deafAt_96 (lv_at hl 4 rfl) ?_
            refine lv_iadd hx hb dX12_deafAt_98 ?_
            refine lv_topi (fun v_28 ev_28 => ?_)
            have q_29 : v_28.toInt = n3.toInt + x7_1.toInt := ow_add ev_28 (by omega) (by omega)
            refine lv_iconst (v := 1) hx hb dX12_deafAt_99 (by decide) ?_
            refine lv_isub hx hb dX12_deafAt_100 ?_
            refine lv_topi (fun v_30 ev_30 => ?_)
            have q_31 : v_30.toInt = v_28.toInt - (1 : Int32).toInt := ow_sub ev_30 (by omega) (by omega)
            refine lv_iconst (v := 0) hx hb dX12_deafAt_101 (by decide) ?_
            refine lv_iload hx hb dX12_deafAt_102 (lv_at hl 11 rfl) ?_
            have hFc := fr_new hS hA
            refine va_calli (va_runV (As := [.int n2, .int v_30, .int 0, .int n4]) (rest := [.int v_27, .int x5_1, .int 0]) ⟨hx, hb, hml, hown, ht⟩ (m_moved l G cy _ mo h T v nm f g n2 v_30 (0) n4  hv hf hR hL (by omega) (by omega)) (cwV 4 ht (gv k_110 k_111 k_112 k_61 k_109) rfl rfl rfl (by decide +kernel) ⟨Nat.le_of_ble_eq_true rfl, Nat.le_of_ble_eq_true rfl⟩) ⟨En.blind, va_recv hK hP (ci := 12) (q0 := 0) rfl rfl, fun U hU hW => ⟨rfl, En.of hU hW hP hK hD0 hN⟩⟩ rfl rfl hl.1 rfl (lv_room (Nat.le_of_ble_eq_true rfl)) dX12_deafAt_104 ⟨Nat.le_of_ble_eq_true rfl, Nat.le_of_ble_eq_true rfl⟩) hS (fun q _ h => hFc q h) hFc (fun r_u_32 u_32 t9 H locs ht9 hvm hw hB hz1 hk1 hS => ?_)
            have hP := fr_keep hP hk1
            have wu_32 := hw
            clear hFc hk1 hz1 hB hw
            refine lv_isub hx hb dX12_deafAt_107 ?_
            refine lv_topi (fun v_33 ev_33 => ?_)
            have hFc := fr_new hS hA
            refine va_calli (va_runS (As := [.int v_33]) (rest := [.int x5_1, .int 0]) ⟨hx, hb, hml, hown, ht⟩ (m_away l G cy _  v_33  ) (va_cwS 1 ht (gs k_75 k_76 k_61 k_74) rfl rfl rfl (by decide +kernel) ⟨Nat.le_of_ble_eq_true rfl, Nat.le_of_ble_eq_true rfl⟩) ⟨En.blind, fun U hU hW => ⟨rfl, En.of hU hW (va_P0 (H := _)) hK va_D0 hN⟩⟩ rfl rfl hl.1 rfl (lv_room (Nat.le_of_ble_eq_true rfl)) dX12_deafAt_108 ⟨Nat.le_of_ble_eq_true rfl, Nat.le_of_ble_eq_true rfl⟩) hS (fun q _ h => hFc q h) hFc (fun r_u_34 u_34 t9 H locs ht9 hvm hw hB hz1 hk1 hS => ?_)
            have hP := fr_keep hP hk1
            have wu_34 := hw
            clear hFc hk1 hz1 hB hw
            refine lv_iadd hx hb dX12_deafAt_111 ?_
            refine lv_topi (fun v_35 ev_35 => ?_)
            refine lv_iload hx hb dX12_deafAt_112 (lv_at hl 5 rfl) ?_
            refine lv_iload hx hb dX12_deafAt_114 (lv_at hl 0 rfl) ?_
            refine lv_aload_n hx hb dX12_deafAt_116 rfl (lv_at hl 7 rfl) ?_
            refine lv_iload_n hx hb dX12_deafAt_117 rfl (lv_at hl 9 rfl) ?_
            refine lv_iload_n hx hb dX12_deafAt_118 rfl (lv_at hl 10 rfl) ?_
            refine lv_iload hx hb dX12_deafAt_119 (lv_at hl 4 rfl) ?_
            refine lv_iadd hx hb dX12_deafAt_121 ?_
            refine lv_topi (fun v_36 ev_36 => ?_)
            have q_37 : v_36.toInt = n3.toInt + x7_1.toInt := ow_add ev_36 (by omega) (by omega)
            refine lv_iconst (v := 0) hx hb dX12_deafAt_122 (by decide) ?_
            refine lv_iload hx hb dX12_deafAt_123 (lv_at hl 11 rfl) ?_
            have hFc := fr_new hS hA
            refine va_calli (va_runV (As := [.int n2, .int v_36, .int 0, .int n4]) (rest := [.int v_23, .int x6_1, .int v_35, .int 0]) ⟨hx, hb, hml, hown, ht⟩ (m_moved l G cy _ mo h T v nm f g n2 v_36 (0) n4  hv hf hR hL (by omega) (by omega)) (cwV 4 ht (gv k_110 k_111 k_112 k_61 k_109) rfl rfl rfl (by decide +kernel) ⟨Nat.le_of_ble_eq_true rfl, Nat.le_of_ble_eq_true rfl⟩) ⟨En.blind, va_recv hK hP (ci := 12) (q0 := 0) rfl rfl, fun U hU hW => ⟨rfl, En.of hU hW hP hK hD0 hN⟩⟩ rfl rfl hl.1 rfl (lv_room (Nat.le_of_ble_eq_true rfl)) dX12_deafAt_125 ⟨Nat.le_of_ble_eq_true rfl, Nat.le_of_ble_eq_true rfl⟩) hS (fun q _ h => hFc q h) hFc (fun r_u_38 u_38 t9 H locs ht9 hvm hw hB hz1 hk1 hS => ?_)
            have hP := fr_keep hP hk1
            have wu_38 := hw
            clear hFc hk1 hz1 hB hw
            refine lv_iadd hx hb dX12_deafAt_128 ?_
            refine lv_topi (fun v_39 ev_39 => ?_)
            refine lv_aload_n hx hb dX12_deafAt_129 rfl (lv_at hl 7 rfl) ?_
            refine lv_iload_n hx hb dX12_deafAt_130 rfl (lv_at hl 9 rfl) ?_
            refine lv_iload_n hx hb dX12_deafAt_131 rfl (lv_at hl 10 rfl) ?_
            refine lv_iload hx hb dX12_deafAt_132 (lv_at hl 4 rfl) ?_
            refine lv_iadd hx hb dX12_deafAt_134 ?_
            refine lv_topi (fun v_40 ev_40 => ?_)
            have q_41 : v_40.toInt = n3.toInt + x7_1.toInt := ow_add ev_40 (by omega) (by omega)
            refine lv_iconst (v := 1) hx hb dX12_deafAt_135 (by decide) ?_
            refine lv_isub hx hb dX12_deafAt_136 ?_
            refine lv_topi (fun v_42 ev_42 => ?_)
            have q_43 : v_42.toInt = v_40.toInt - (1 : Int32).toInt := ow_sub ev_42 (by omega) (by omega)
            refine lv_iconst (v := 1) hx hb dX12_deafAt_137 (by decide) ?_
            refine lv_iload hx hb dX12_deafAt_138 (lv_at hl 11 rfl) ?_
            have hFc := fr_new hS hA
            refine va_calli (va_runV (As := [.int n2, .int v_42, .int 1, .int n4]) (rest := [.int v_39, .int x6_1, .int v_35, .int 0]) ⟨hx, hb, hml, hown, ht⟩ (m_moved l G cy _ mo h T v nm f g n2 v_42 (1) n4  hv hf hR hL (by omega) (by omega)) (cwV 4 ht (gv k_110 k_111 k_112 k_61 k_109) rfl rfl rfl (by decide +kernel) ⟨Nat.le_of_ble_eq_true rfl, Nat.le_of_ble_eq_true rfl⟩) ⟨En.blind, va_recv hK hP (ci := 12) (q0 := 0) rfl rfl, fun U hU hW => ⟨rfl, En.of hU hW hP hK hD0 hN⟩⟩ rfl rfl hl.1 rfl (lv_room (Nat.le_of_ble_eq_true rfl)) dX12_deafAt_140 ⟨Nat.le_of_ble_eq_true rfl, Nat.le_of_ble_eq_true rfl⟩) hS (fun q _ h => hFc q h) hFc (fun r_u_44 u_44 t9 H locs ht9 hvm hw hB hz1 hk1 hS => ?_)
            have hP := fr_keep hP hk1
            have wu_44 := hw
            clear hFc hk1 hz1 hB hw
            refine lv_isub hx hb dX12_deafAt_143 ?_
            refine lv_topi (fun v_45 ev_45 => ?_)
            have hFc := fr_new hS hA
            refine va_calli (va_runS (As := [.int v_45]) (rest := [.int x6_1, .int v_35, .int 0]) ⟨hx, hb, hml, hown, ht⟩ (m_away l G cy _  v_45  ) (va_cwS 1 ht (gs k_75 k_76 k_61 k_74) rfl rfl rfl (by decide +kernel) ⟨Nat.le_of_ble_eq_true rfl, Nat.le_of_ble_eq_true rfl⟩) ⟨En.blind, fun U hU hW => ⟨rfl, En.of hU hW (va_P0 (H := _)) hK va_D0 hN⟩⟩ rfl rfl hl.1 rfl (lv_room (Nat.le_of_ble_eq_true rfl)) dX12_deafAt_144 ⟨Nat.le_of_ble_eq_true rfl, Nat.le_of_ble_eq_true rfl⟩) hS (fun q _ h => hFc q h) hFc (fun r_u_46 u_46 t9 H locs ht9 hvm hw hB hz1 hk1 hS => ?_)
            have hP := fr_keep hP hk1
            have wu_46 := hw
            clear hFc hk1 hz1 hB hw
            refine lv_iadd hx hb dX12_deafAt_147 ?_
            refine lv_topi (fun v_47 ev_47 => ?_)
            have hFc := fr_new hS hA
            refine va_calli (va_runS (As := [.int v_35, .int v_47]) (rest := [.int 0]) ⟨hx, hb, hml, hown, ht⟩ (m_lower l G cy _  v_35 v_47  ) (va_cwS 2 ht (gs k_107 k_108 k_61 k_106) rfl rfl rfl (by decide +kernel) ⟨Nat.le_of_ble_eq_true rfl, Nat.le_of_ble_eq_true rfl⟩) ⟨En.blind, fun U hU hW => ⟨rfl, En.of hU hW (va_P0 (H := _)) hK va_D0 hN⟩⟩ rfl rfl hl.1 rfl (lv_room (Nat.le_of_ble_eq_true rfl)) dX12_deafAt_148 ⟨Nat.le_of_ble_eq_true rfl, Nat.le_of_ble_eq_true rfl⟩) hS (fun q _ h => hFc q h) hFc (fun r_u_48 u_48 t9 H locs ht9 hvm hw hB hz1 hk1 hS => ?_)
            have hP := fr_keep hP hk1
            have wu_48 := hw
            clear hFc hk1 hz1 hB hw
            refine lv_iadd hx hb dX12_deafAt_151 ?_
            refine lv_topi (fun v_49 ev_49 => ?_)
            refine lv_istore (lv' := [(9, .int v_49), (11, .int v_23), (10, .int 0), (8, .int 0), (7, .int x7_1), (6, .int x6_1), (5, .int x5_1), (0, .ref mo), (1, .int n), (2, .int n2), (3, .int n3), (4, .int n4)]) hx hb dX12_deafAt_152 hl (by decide) rfl (fun ls hl => ?_)
            refine lv_iload hx hb dX12_deafAt_154 (lv_at hl 2 rfl) ?_
            refine lv_iload hx hb dX12_deafAt_156 (lv_at hl 6 rfl) ?_
            refine lv_iload hx hb dX12_deafAt_158 (lv_at hl 1 rfl) ?_
            refine lv_aload_n hx hb dX12_deafAt_160 rfl (lv_at hl 7 rfl) ?_
            refine lv_iload_n hx hb dX12_deafAt_161 rfl (lv_at hl 9 rfl) ?_
            refine lv_iload_n hx hb dX12_deafAt_162 rfl (lv_at hl 10 rfl) ?_
            refine lv_iload hx hb dX12_deafAt_163 (lv_at hl 4 rfl) ?_
            refine lv_iadd hx hb dX12_deafAt_165 ?_
            refine lv_topi (fun v_50 ev_50 => ?_)
            have q_51 : v_50.toInt = n3.toInt + x7_1.toInt := ow_add ev_50 (by omega) (by omega)
            refine lv_iconst (v := 1) hx hb dX12_deafAt_166 (by decide) ?_
            refine lv_iload hx hb dX12_deafAt_167 (lv_at hl 11 rfl) ?_
            have hFc := fr_new hS hA
            refine va_calli (va_runV (As := [.int n2, .int v_50, .int 1, .int n4]) (rest := [.int v_23, .int x5_1, .int 0]) ⟨hx, hb, hml, hown, ht⟩ (m_moved l G cy _ mo h T v nm f g n2 v_50 (1) n4  hv hf hR hL (by omega) (by omega)) (cwV 4 ht (gv k_110 k_111 k_112 k_61 k_109) rfl rfl rfl (by decide +kernel) ⟨Nat.le_of_ble_eq_true rfl, Nat.le_of_ble_eq_true rfl⟩) ⟨En.blind, va_recv hK hP (ci := 12) (q0 := 0) rfl rfl, fun U hU hW => ⟨rfl, En.of hU hW hP hK hD0 hN⟩⟩ rfl rfl hl.1 rfl (lv_room (Nat.le_of_ble_eq_true rfl)) dX12_deafAt_169 ⟨Nat.le_of_ble_eq_true rfl, Nat.le_of_ble_eq_true rfl⟩) hS (fun q _ h => hFc q h) hFc (fun r_u_52 u_52 t9 H locs ht9 hvm hw hB hz1 hk1 hS => ?_)
            have hP := fr_keep hP hk1
            have wu_52 := hw
            clear hFc hk1 hz1 hB hw
            refine lv_iadd hx hb dX12_deafAt_172 ?_
            refine lv_topi (fun v_53 ev_53 => ?_)
            refine lv_aload_n hx hb dX12_deafAt_173 rfl (lv_at hl 7 rfl) ?_
            refine lv_iload_n hx hb dX12_deafAt_174 rfl (lv_at hl 9 rfl) ?_
            refine lv_iload_n hx hb dX12_deafAt_175 rfl (lv_at hl 10 rfl) ?_
            refine lv_iload hx hb dX12_deafAt_176 (lv_at hl 4 rfl) ?_
            refine lv_iadd hx hb dX12_deafAt_178 ?_
            refine lv_topi (fun v_54 ev_54 => ?_)
            have q_55 : v_54.toInt = n3.toInt + x7_1.toInt := ow_add ev_54 (by omega) (by omega)
            refine lv_iconst (v := 1) hx hb dX12_deafAt_179 (by decide) ?_
            refine lv_isub hx hb dX12_deafAt_180 ?_
            refine lv_topi (fun v_56 ev_56 => ?_)
            have q_57 : v_56.toInt = v_54.toInt - (1 : Int32).toInt := ow_sub ev_56 (by omega) (by omega)
            refine lv_iconst (v := 0) hx hb dX12_deafAt_181 (by decide) ?_
            refine lv_iload hx hb dX12_deafAt_182 (lv_at hl 11 rfl) ?_
            have hFc := fr_new hS hA
            refine va_calli (va_runV (As := [.int n2, .int v_56, .int 0, .int n4]) (rest := [.int v_53, .int x5_1, .int 0]) ⟨hx, hb, hml, hown, ht⟩ (m_moved l G cy _ mo h T v nm f g n2 v_56 (0) n4  hv hf hR hL (by omega) (by omega)) (cwV 4 ht (gv k_110 k_111 k_112 k_61 k_109) rfl rfl rfl (by decide +kernel) ⟨Nat.le_of_ble_eq_true rfl, Nat.le_of_ble_eq_true rfl⟩) ⟨En.blind, va_recv hK hP (ci := 12) (q0 := 0) rfl rfl, fun U hU hW => ⟨rfl, En.of hU hW hP hK hD0 hN⟩⟩ rfl rfl hl.1 rfl (lv_room (Nat.le_of_ble_eq_true rfl)) dX12_deafAt_184 ⟨Nat.le_of_ble_eq_true rfl, Nat.le_of_ble_eq_true rfl⟩) hS (fun q _ h => hFc q h) hFc (fun r_u_58 u_58 t9 H locs ht9 hvm hw hB hz1 hk1 hS => ?_)
            have hP := fr_keep hP hk1
            have wu_58 := hw
            clear hFc hk1 hz1 hB hw
            refine lv_isub hx hb dX12_deafAt_187 ?_
            refine lv_topi (fun v_59 ev_59 => ?_)
            have hFc := fr_new hS hA
            refine va_calli (va_runS (As := [.int v_59]) (rest := [.int x5_1, .int 0]) ⟨hx, hb, hml, hown, ht⟩ (m_away l G cy _  v_59  ) (va_cwS 1 ht (gs k_75 k_76 k_61 k_74) rfl rfl rfl (by decide +kernel) ⟨Nat.le_of_ble_eq_true rfl, Nat.le_of_ble_eq_true rfl⟩) ⟨En.blind, fun U hU hW => ⟨rfl, En.of hU hW (va_P0 (H := _)) hK va_D0 hN⟩⟩ rfl rfl hl.1 rfl (lv_room (Nat.le_of_ble_eq_true rfl)) dX12_deafAt_188 ⟨Nat.le_of_ble_eq_true rfl, Nat.le_of_ble_eq_true rfl⟩) hS (fun q _ h => hFc q h) hFc (fun r_u_60 u_60 t9 H locs ht9 hvm hw hB hz1 hk1 hS => ?_)
            have hP := fr_keep hP hk1
            have wu_60 := hw
            clear hFc hk1 hz1 hB hw
            refine lv_iadd hx hb dX12_deafAt_191 ?_
            refine lv_topi (fun v_61 ev_61 => ?_)
            refine lv_iload hx hb dX12_deafAt_192 (lv_at hl 5 rfl) ?_
            refine lv_iload hx hb dX12_deafAt_194 (lv_at hl 1 rfl) ?_
            refine lv_aload_n hx hb dX12_deafAt_196 rfl (lv_at hl 7 rfl) ?_
            refine lv_iload_n hx hb dX12_deafAt_197 rfl (lv_at hl 9 rfl) ?_
            refine lv_iload_n hx hb dX12_deafAt_198 rfl (lv_at hl 10 rfl) ?_
            refine lv_iload hx hb dX12_deafAt_199 (lv_at hl 4 rfl) ?_
            refine lv_iadd hx hb dX12_deafAt_201 ?_
            refine lv_topi (fun v_62 ev_62 => ?_)
            have q_63 : v_62.toInt = n3.toInt + x7_1.toInt := ow_add ev_62 (by omega) (by omega)
            refine lv_iconst (v := 1) hx hb dX12_deafAt_202 (by decide) ?_
            refine lv_iload hx hb dX12_deafAt_203 (lv_at hl 11 rfl) ?_
            have hFc := fr_new hS hA
            refine va_calli (va_runV (As := [.int n2, .int v_62, .int 1, .int n4]) (rest := [.int v_23, .int x6_1, .int v_61, .int 0]) ⟨hx, hb, hml, hown, ht⟩ (m_moved l G cy _ mo h T v nm f g n2 v_62 (1) n4  hv hf hR hL (by omega) (by omega)) (cwV 4 ht (gv k_110 k_111 k_112 k_61 k_109) rfl rfl rfl (by decide +kernel) ⟨Nat.le_of_ble_eq_true rfl, Nat.le_of_ble_eq_true rfl⟩) ⟨En.blind, va_recv hK hP (ci := 12) (q0 := 0) rfl rfl, fun U hU hW => ⟨rfl, En.of hU hW hP hK hD0 hN⟩⟩ rfl rfl hl.1 rfl (lv_room (Nat.le_of_ble_eq_true rfl)) dX12_deafAt_205 ⟨Nat.le_of_ble_eq_true rfl, Nat.le_of_ble_eq_true rfl⟩) hS (fun q _ h => hFc q h) hFc (fun r_u_64 u_64 t9 H locs ht9 hvm hw hB hz1 hk1 hS => ?_)
            have hP := fr_keep hP hk1
            have wu_64 := hw
            clear hFc hk1 hz1 hB hw
            refine lv_iadd hx hb dX12_deafAt_208 ?_
            refine lv_topi (fun v_65 ev_65 => ?_)
            refine lv_aload_n hx hb dX12_deafAt_209 rfl (lv_at hl 7 rfl) ?_
            refine lv_iload_n hx hb dX12_deafAt_210 rfl (lv_at hl 9 rfl) ?_
            refine lv_iload_n hx hb dX12_deafAt_211 rfl (lv_at hl 10 rfl) ?_
            refine lv_iload hx hb dX12_deafAt_212 (lv_at hl 4 rfl) ?_
            refine lv_iadd hx hb dX12_deafAt_214 ?_
            refine lv_topi (fun v_66 ev_66 => ?_)
            have q_67 : v_66.toInt = n3.toInt + x7_1.toInt := ow_add ev_66 (by omega) (by omega)
            refine lv_iconst (v := 1) hx hb dX12_deafAt_215 (by decide) ?_
            refine lv_isub hx hb dX12_deafAt_216 ?_
            refine lv_topi (fun v_68 ev_68 => ?_)
            have q_69 : v_68.toInt = v_66.toInt - (1 : Int32).toInt := ow_sub ev_68 (by omega) (by omega)
            refine lv_iconst (v := 1) hx hb dX12_deafAt_217 (by decide) ?_
            refine lv_iload hx hb dX12_deafAt_218 (lv_at hl 11 rfl) ?_
            have hFc := fr_new hS hA
            refine va_calli (va_runV (As := [.int n2, .int v_68, .int 1, .int n4]) (rest := [.int v_65, .int x6_1, .int v_61, .int 0]) ⟨hx, hb, hml, hown, ht⟩ (m_moved l G cy _ mo h T v nm f g n2 v_68 (1) n4  hv hf hR hL (by omega) (by omega)) (cwV 4 ht (gv k_110 k_111 k_112 k_61 k_109) rfl rfl rfl (by decide +kernel) ⟨Nat.le_of_ble_eq_true rfl, Nat.le_of_ble_eq_true rfl⟩) ⟨En.blind, va_recv hK hP (ci := 12) (q0 := 0) rfl rfl, fun U hU hW => ⟨rfl, En.of hU hW hP hK hD0 hN⟩⟩ rfl rfl hl.1 rfl (lv_room (Nat.le_of_ble_eq_true rfl)) dX12_deafAt_220 ⟨Nat.le_of_ble_eq_true rfl, Nat.le_of_ble_eq_true rfl⟩) hS (fun q _ h => hFc q h) hFc (fun r_u_70 u_70 t9 H locs ht9 hvm hw hB hz1 hk1 hS => ?_)
            have hP := fr_keep hP hk1
            have wu_70 := hw
            clear hFc hk1 hz1 hB hw
            refine lv_isub hx hb dX12_deafAt_223 ?_
            refine lv_topi (fun v_71 ev_71 => ?_)
            have hFc := fr_new hS hA
            refine va_calli (va_runS (As := [.int v_71]) (rest := [.int x6_1, .int v_61, .int 0]) ⟨hx, hb, hml, hown, ht⟩ (m_away l G cy _  v_71  ) (va_cwS 1 ht (gs k_75 k_76 k_61 k_74) rfl rfl rfl (by decide +kernel) ⟨Nat.le_of_ble_eq_true rfl, Nat.le_of_ble_eq_true rfl⟩) ⟨En.blind, fun U hU hW => ⟨rfl, En.of hU hW (va_P0 (H := _)) hK va_D0 hN⟩⟩ rfl rfl hl.1 rfl (lv_room (Nat.le_of_ble_eq_true rfl)) dX12_deafAt_224 ⟨Nat.le_of_ble_eq_true rfl, Nat.le_of_ble_eq_true rfl⟩) hS (fun q _ h => hFc q h) hFc (fun r_u_72 u_72 t9 H locs ht9 hvm hw hB hz1 hk1 hS => ?_)
            have hP := fr_keep hP hk1
            have wu_72 := hw
            clear hFc hk1 hz1 hB hw
            refine lv_iadd hx hb dX12_deafAt_227 ?_
            refine lv_topi (fun v_73 ev_73 => ?_)
            have hFc := fr_new hS hA
            refine va_calli (va_runS (As := [.int v_61, .int v_73]) (rest := [.int 0]) ⟨hx, hb, hml, hown, ht⟩ (m_lower l G cy _  v_61 v_73  ) (va_cwS 2 ht (gs k_107 k_108 k_61 k_106) rfl rfl rfl (by decide +kernel) ⟨Nat.le_of_ble_eq_true rfl, Nat.le_of_ble_eq_true rfl⟩) ⟨En.blind, fun U hU hW => ⟨rfl, En.of hU hW (va_P0 (H := _)) hK va_D0 hN⟩⟩ rfl rfl hl.1 rfl (lv_room (Nat.le_of_ble_eq_true rfl)) dX12_deafAt_228 ⟨Nat.le_of_ble_eq_true rfl, Nat.le_of_ble_eq_true rfl⟩) hS (fun q _ h => hFc q h) hFc (fun r_u_74 u_74 t9 H locs ht9 hvm hw hB hz1 hk1 hS => ?_)
            have hP := fr_keep hP hk1
            have wu_74 := hw
            clear hFc hk1 hz1 hB hw
            refine lv_iadd hx hb dX12_deafAt_231 ?_
            refine lv_topi (fun v_75 ev_75 => ?_)
            refine lv_istore (lv' := [(10, .int v_75), (9, .int v_49), (11, .int v_23), (8, .int 0), (7, .int x7_1), (6, .int x6_1), (5, .int x5_1), (0, .ref mo), (1, .int n), (2, .int n2), (3, .int n3), (4, .int n4)]) hx hb dX12_deafAt_232 hl (by decide) rfl (fun ls hl => ?_)
            refine lv_iload hx hb dX12_deafAt_234 (lv_at hl 1 rfl) ?_
            refine lv_istore (lv' := [(5, .int v_49), (10, .int v_75), (9, .int v_49), (11, .int v_23), (8, .int 0), (7, .int x7_1), (6, .int x6_1), (0, .ref mo), (1, .int n), (2, .int n2), (3, .int n3), (4, .int n4)]) hx hb dX12_deafAt_236 hl (by decide) rfl (fun ls hl => ?_)
            refine lv_iload hx hb dX12_deafAt_238 (lv_at hl 1 rfl) ?_
            refine lv_istore (lv' := [(6, .int v_75), (5, .int v_49), (10, .int v_75), (9, .int v_49), (11, .int v_23), (8, .int 0), (7, .int x7_1), (0, .ref mo), (1, .int n), (2, .int n2), (3, .int n3), (4, .int n4)]) hx hb dX12_deafAt_240 hl (by decide) rfl (fun ls hl => ?_)
            obtain ⟨v_76, ev_76⟩ : ∃ y : Int32, y = x7_1 + 1 := ⟨_, rfl⟩
            refine lv_iinc (v := v_76) (lv' := [(7, .int v_76), (6, .int v_75), (5, .int v_49), (10, .int v_75), (9, .int v_49), (11, .int v_23), (8, .int 0), (0, .ref mo), (1, .int n), (2, .int n2), (3, .int n3), (4, .int n4)]) hx hb dX12_deafAt_242 hl (k := 6) rfl (by rw [ev_76]; rfl) (by decide) rfl (fun ls hl => ?_)
            have q_77 : v_76.toInt = x7_1.toInt + 1 := by have := ow_add ev_76 (by omega) (by omega); omega
            refine lv_goto (tgt := 9) hx hb dX12_deafAt_245 (by decide) ?_
            refine W.widen (k := 0) (n := 0) (Nat.le_of_ble_eq_true rfl) (Nat.le_of_ble_eq_true rfl) ?_
            exact ih_1 v_76 v_75 v_49 _ _ _ (by omega) (by omega) hP hS (lv_sub hl [0, 1, 2, 7, 8, 9, 10, 11] rfl)
        · have q_78 : ¬ r_u_7.toInt = (0 : Int32).toInt := by have := (not_congr (ow_eq _ _)).mp c_8; omega
          refine lv_iconst (v := 1) hx hb dX12_deafAt_31 (by decide) ?_
          refine lv_goto (tgt := 36) hx hb dX12_deafAt_32 (by decide) ?_
          refine lv_istore (lv' := [(8, .int 1), (7, .int x7_1), (6, .int x6_1), (5, .int x5_1), (0, .ref mo), (1, .int n), (2, .int n2), (3, .int n3), (4, .int n4)]) hx hb dX12_deafAt_36 hl (by decide) rfl (fun ls hl => ?_)
          refine lv_iload hx hb dX12_deafAt_38 (lv_at hl 0 rfl) ?_
          refine lv_istore (lv' := [(9, .int 1), (8, .int 1), (7, .int x7_1), (6, .int x6_1), (5, .int x5_1), (0, .ref mo), (1, .int n), (2, .int n2), (3, .int n3), (4, .int n4)]) hx hb dX12_deafAt_40 hl (by decide) rfl (fun ls hl => ?_)
          refine lv_iload hx hb dX12_deafAt_42 (lv_at hl 1 rfl) ?_
          refine lv_istore (lv' := [(10, .int 1), (9, .int 1), (8, .int 1), (7, .int x7_1), (6, .int x6_1), (5, .int x5_1), (0, .ref mo), (1, .int n), (2, .int n2), (3, .int n3), (4, .int n4)]) hx hb dX12_deafAt_44 hl (by decide) rfl (fun ls hl => ?_)
          refine lv_iload hx hb dX12_deafAt_46 (lv_at hl 3 rfl) ?_
          refine lv_if_le (tgt := 234) hx hb dX12_deafAt_48 (by decide) (fun c_79 => ?_) (fun c_79 => ?_)
          · have q_80 : x7_1.toInt ≤ (0 : Int32).toInt := (ow_le _ _).mp c_79
            refine lv_iload hx hb dX12_deafAt_234 (lv_at hl 1 rfl) ?_
            refine lv_istore (lv' := [(5, .int 1), (10, .int 1), (9, .int 1), (8, .int 1), (7, .int x7_1), (6, .int x6_1), (0, .ref mo), (1, .int n), (2, .int n2), (3, .int n3), (4, .int n4)]) hx hb dX12_deafAt_236 hl (by decide) rfl (fun ls hl => ?_)
            refine lv_iload hx hb dX12_deafAt_238 (lv_at hl 1 rfl) ?_
            refine lv_istore (lv' := [(6, .int 1), (5, .int 1), (10, .int 1), (9, .int 1), (8, .int 1), (7, .int x7_1), (0, .ref mo), (1, .int n), (2, .int n2), (3, .int n3), (4, .int n4)]) hx hb dX12_deafAt_240 hl (by decide) rfl (fun ls hl => ?_)
            obtain ⟨v_81, ev_81⟩ : ∃ y : Int32, y = x7_1 + 1 := ⟨_, rfl⟩
            refine lv_iinc (v := v_81) (lv' := [(7, .int v_81), (6, .int 1), (5, .int 1), (10, .int 1), (9, .int 1), (8, .int 1), (0, .ref mo), (1, .int n), (2, .int n2), (3, .int n3), (4, .int n4)]) hx hb dX12_deafAt_242 hl (k := 5) rfl (by rw [ev_81]; rfl) (by decide) rfl (fun ls hl => ?_)
            have q_82 : v_81.toInt = x7_1.toInt + 1 := by have := ow_add ev_81 (by omega) (by omega); omega
            refine lv_goto (tgt := 9) hx hb dX12_deafAt_245 (by decide) ?_
            refine W.widen (k := 0) (n := 0) (Nat.le_of_ble_eq_true rfl) (Nat.le_of_ble_eq_true rfl) ?_
            exact ih_1 v_81 (1) (1) _ _ _ (by omega) (by omega) hP hS (lv_sub hl [0, 1, 2, 6, 7, 8, 9, 10] rfl)
          · have q_83 : (0 : Int32).toInt < x7_1.toInt := by have := (not_congr (ow_le _ _)).mp c_79; omega
            refine lv_aload_n hx hb dX12_deafAt_51 rfl (lv_at hl 6 rfl) ?_
            refine lv_iload_n hx hb dX12_deafAt_52 rfl (lv_at hl 8 rfl) ?_
            refine lv_iload_n hx hb dX12_deafAt_53 rfl (lv_at hl 9 rfl) ?_
            refine lv_iload hx hb dX12_deafAt_54 (lv_at hl 3 rfl) ?_
            refine lv_iadd hx hb dX12_deafAt_56 ?_
            refine lv_topi (fun v_84 ev_84 => ?_)
            have q_85 : v_84.toInt = n3.toInt + x7_1.toInt := ow_add ev_84 (by omega) (by omega)
            refine lv_iconst (v := 1) hx hb dX12_deafAt_57 (by decide) ?_
            refine lv_isub hx hb dX12_deafAt_58 ?_
            refine lv_topi (fun v_86 ev_86 => ?_)
            have q_87 : v_86.toInt = v_84.toInt - (1 : Int32).toInt := ow_sub ev_86 (by omega) (by omega)
            have hFc := fr_new hS hA
            refine va_calli (va_runV (As := [.int n2, .int v_86]) (rest := []) ⟨hx, hb, hml, hown, ht⟩ (m_stepOf l G cy _ mo h T v nm f g n2 v_86  hv hf hR hL (by omega) (by omega)) (cwV 2 ht (gv k_71 k_72 k_73 k_61 k_70) rfl rfl rfl (by decide +kernel) ⟨Nat.le_of_ble_eq_true rfl, Nat.le_of_ble_eq_true rfl⟩) ⟨En.blind, va_recv hK hP (ci := 12) (q0 := 0) rfl rfl, fun U hU hW => ⟨rfl, En.of hU hW hP hK hD0 hN⟩⟩ rfl rfl hl.1 rfl (lv_room (Nat.le_of_ble_eq_true rfl)) dX12_deafAt_59 ⟨Nat.le_of_ble_eq_true rfl, Nat.le_of_ble_eq_true rfl⟩) hS (fun q _ h => hFc q h) hFc (fun r_u_88 u_88 t9 H locs ht9 hvm hw hB hz1 hk1 hS => ?_)
            have hP := fr_keep hP hk1
            have wu_88 := hw
            clear hFc hk1 hz1 hB hw
            refine lv_aload_n hx hb dX12_deafAt_62 rfl (lv_at hl 6 rfl) ?_
            refine lv_iload_n hx hb dX12_deafAt_63 rfl (lv_at hl 7 rfl) ?_
            refine lv_iload hx hb dX12_deafAt_64 (lv_at hl 3 rfl) ?_
            refine lv_iconst (v := 1) hx hb dX12_deafAt_66 (by decide) ?_
            refine lv_isub hx hb dX12_deafAt_67 ?_
            refine lv_topi (fun v_89 ev_89 => ?_)
            have q_90 : v_89.toInt = x7_1.toInt - (1 : Int32).toInt := ow_sub ev_89 (by omega) (by omega)
            have hFc := fr_new hS hA
            refine va_calli (va_runV (As := [.int n, .int v_89]) (rest := [.int r_u_88]) ⟨hx, hb, hml, hown, ht⟩ (m_stepOf l G cy _ mo h T v nm f g n v_89  hv hf hR hL (by omega) (by omega)) (cwV 2 ht (gv k_71 k_72 k_73 k_61 k_70) rfl rfl rfl (by decide +kernel) ⟨Nat.le_of_ble_eq_true rfl, Nat.le_of_ble_eq_true rfl⟩) ⟨En.blind, va_recv hK hP (ci := 12) (q0 := 0) rfl rfl, fun U hU hW => ⟨rfl, En.of hU hW hP hK hD0 hN⟩⟩ rfl rfl hl.1 rfl (lv_room (Nat.le_of_ble_eq_true rfl)) dX12_deafAt_68 ⟨Nat.le_of_ble_eq_true rfl, Nat.le_of_ble_eq_true rfl⟩) hS (fun q _ h => hFc q h) hFc (fun r_u_91 u_91 t9 H locs ht9 hvm hw hB hz1 hk1 hS => ?_)
            have hP := fr_keep hP hk1
            have wu_91 := hw
            clear hFc hk1 hz1 hB hw
            refine lv_isub hx hb dX12_deafAt_71 ?_
            refine lv_topi (fun v_92 ev_92 => ?_)
            refine lv_istore (lv' := [(11, .int v_92), (10, .int 1), (9, .int 1), (8, .int 1), (7, .int x7_1), (6, .int x6_1), (5, .int x5_1), (0, .ref mo), (1, .int n), (2, .int n2), (3, .int n3), (4, .int n4)]) hx hb dX12_deafAt_72 hl (by decide) rfl (fun ls hl => ?_)
            refine lv_iload hx hb dX12_deafAt_74 (lv_at hl 2 rfl) ?_
            refine lv_iload hx hb dX12_deafAt_76 (lv_at hl 6 rfl) ?_
            refine lv_iload hx hb dX12_deafAt_78 (lv_at hl 0 rfl) ?_
            refine lv_aload_n hx hb dX12_deafAt_80 rfl (lv_at hl 7 rfl) ?_
            refine lv_iload_n hx hb dX12_deafAt_81 rfl (lv_at hl 9 rfl) ?_
            refine lv_iload_n hx hb dX12_deafAt_82 rfl (lv_at hl 10 rfl) ?_
            refine lv_iload hx hb dX12_deafAt_83 (lv_at hl 4 rfl) ?_
            refine lv_iadd hx hb dX12_deafAt_85 ?_
            refine lv_topi (fun v_93 ev_93 => ?_)
            have q_94 : v_93.toInt = n3.toInt + x7_1.toInt := ow_add ev_93 (by omega) (by omega)
            refine lv_iconst (v := 0) hx hb dX12_deafAt_86 (by decide) ?_
            refine lv_iload hx hb dX12_deafAt_87 (lv_at hl 11 rfl) ?_
            have hFc := fr_new hS hA
            refine va_calli (va_runV (As := [.int n2, .int v_93, .int 0, .int n4]) (rest := [.int v_92, .int x5_1, .int 1]) ⟨hx, hb, hml, hown, ht⟩ (m_moved l G cy _ mo h T v nm f g n2 v_93 (0) n4  hv hf hR hL (by omega) (by omega)) (cwV 4 ht (gv k_110 k_111 k_112 k_61 k_109) rfl rfl rfl (by decide +kernel) ⟨Nat.le_of_ble_eq_true rfl, Nat.le_of_ble_eq_true rfl⟩) ⟨En.blind, va_recv hK hP (ci := 12) (q0 := 0) rfl rfl, fun U hU hW => ⟨rfl, En.of hU hW hP hK hD0 hN⟩⟩ rfl rfl hl.1 rfl (lv_room (Nat.le_of_ble_eq_true rfl)) dX12_deafAt_89 ⟨Nat.le_of_ble_eq_true rfl, Nat.le_of_ble_eq_true rfl⟩) hS (fun q _ h => hFc q h) hFc (fun r_u_95 u_95 t9 H locs ht9 hvm hw hB hz1 hk1 hS => ?_)
            have hP := fr_keep hP hk1
            have wu_95 := hw
            clear hFc hk1 hz1 hB hw
            refine lv_iadd hx hb dX12_deafAt_92 ?_
            refine lv_topi (fun v_96 ev_96 => ?_)
            refine lv_aload_n hx hb dX12_deafAt_93 rfl (lv_at hl 7 rfl) ?_
            refine lv_iload_n hx hb dX12_deafAt_94 rfl (lv_at hl 9 rfl) ?_
            refine lv_iload_n hx hb dX12_deafAt_95 rfl (lv_at hl 10 rfl) ?_
            refine lv_iload hx hb dX12_deafAt_96 (lv_at hl 4 rfl) ?_
            refine lv_iadd hx hb dX12_deafAt_98 ?_
            refine lv_topi (fun v_97 ev_97 => ?_)
            have q_98 : v_97.toInt = n3.toInt + x7_1.toInt := ow_add ev_97 (by omega) (by omega)
            refine lv_iconst (v := 1) hx hb dX12_deafAt_99 (by decide) ?_
            refine lv_isub hx hb dX12_deafAt_100 ?_
            refine lv_topi (fun v_99 ev_99 => ?_)
            have q_100 : v_99.toInt = v_97.toInt - (1 : Int32).toInt := ow_sub ev_99 (by omega) (by omega)
            refine lv_iconst (v := 0) hx hb dX12_deafAt_101 (by decide) ?_
            refine lv_iload hx hb dX12_deafAt_102 (lv_at hl 11 rfl) ?_
            have hFc := fr_new hS hA
            refine va_calli (va_runV (As := [.int n2, .int v_99, .int 0, .int n4]) (rest := [.int v_96, .int x5_1, .int 1]) ⟨hx, hb, hml, hown, ht⟩ (m_moved l G cy _ mo h T v nm f g n2 v_99 (0) n4  hv hf hR hL (by omega) (by omega)) (cwV 4 ht (gv k_110 k_111 k_112 k_61 k_109) rfl rfl rfl (by decide +kernel) ⟨Nat.le_of_ble_eq_true rfl, Nat.le_of_ble_eq_true rfl⟩) ⟨En.blind, va_recv hK hP (ci := 12) (q0 := 0) rfl rfl, fun U hU hW => ⟨rfl, En.of hU hW hP hK hD0 hN⟩⟩ rfl rfl hl.1 rfl (lv_room (Nat.le_of_ble_eq_true rfl)) dX12_deafAt_104 ⟨Nat.le_of_ble_eq_true rfl, Nat.le_of_ble_eq_true rfl⟩) hS (fun q _ h => hFc q h) hFc (fun r_u_101 u_101 t9 H locs ht9 hvm hw hB hz1 hk1 hS => ?_)
            have hP := fr_keep hP hk1
            have wu_101 := hw
            clear hFc hk1 hz1 hB hw
            refine lv_isub hx hb dX12_deafAt_107 ?_
            refine lv_topi (fun v_102 ev_102 => ?_)
            have hFc := fr_new hS hA
            refine va_calli (va_runS (As := [.int v_102]) (rest := [.int x5_1, .int 1]) ⟨hx, hb, hml, hown, ht⟩ (m_away l G cy _  v_102  ) (va_cwS 1 ht (gs k_75 k_76 k_61 k_74) rfl rfl rfl (by decide +kernel) ⟨Nat.le_of_ble_eq_true rfl, Nat.le_of_ble_eq_true rfl⟩) ⟨En.blind, fun U hU hW => ⟨rfl, En.of hU hW (va_P0 (H := _)) hK va_D0 hN⟩⟩ rfl rfl hl.1 rfl (lv_room (Nat.le_of_ble_eq_true rfl)) dX12_deafAt_108 ⟨Nat.le_of_ble_eq_true rfl, Nat.le_of_ble_eq_true rfl⟩) hS (fun q _ h => hFc q h) hFc (fun r_u_103 u_103 t9 H locs ht9 hvm hw hB hz1 hk1 hS => ?_)
            have hP := fr_keep hP hk1
            have wu_103 := hw
            clear hFc hk1 hz1 hB hw
            refine lv_iadd hx hb dX12_deafAt_111 ?_
            refine lv_topi (fun v_104 ev_104 => ?_)
            refine lv_iload hx hb dX12_deafAt_112 (lv_at hl 5 rfl) ?_
            refine lv_iload hx hb dX12_deafAt_114 (lv_at hl 0 rfl) ?_
            refine lv_aload_n hx hb dX12_deafAt_116 rfl (lv_at hl 7 rfl) ?_
            refine lv_iload_n hx hb dX12_deafAt_117 rfl (lv_at hl 9 rfl) ?_
            refine lv_iload_n hx hb dX12_deafAt_118 rfl (lv_at hl 10 rfl) ?_
            refine lv_iload hx hb dX12_deafAt_119 (lv_at hl 4 rfl) ?_
            refine lv_iadd hx hb dX12_deafAt_121 ?_
            refine lv_topi (fun v_105 ev_105 => ?_)
            have q_106 : v_105.toInt = n3.toInt + x7_1.toInt := ow_add ev_105 (by omega) (by omega)
            refine lv_iconst (v := 0) hx hb dX12_deafAt_122 (by decide) ?_
            refine lv_iload hx hb dX12_deafAt_123 (lv_at hl 11 rfl) ?_
            have hFc := fr_new hS hA
            refine va_calli (va_runV (As := [.int n2, .int v_105, .int 0, .int n4]) (rest := [.int v_92, .int x6_1, .int v_104, .int 1]) ⟨hx, hb, hml, hown, ht⟩ (m_moved l G cy _ mo h T v nm f g n2 v_105 (0) n4  hv hf hR hL (by omega) (by omega)) (cwV 4 ht (gv k_110 k_111 k_112 k_61 k_109) rfl rfl rfl (by decide +kernel) ⟨Nat.le_of_ble_eq_true rfl, Nat.le_of_ble_eq_true rfl⟩) ⟨En.blind, va_recv hK hP (ci := 12) (q0 := 0) rfl rfl, fun U hU hW => ⟨rfl, En.of hU hW hP hK hD0 hN⟩⟩ rfl rfl hl.1 rfl (lv_room (Nat.le_of_ble_eq_true rfl)) dX12_deafAt_125 ⟨Nat.le_of_ble_eq_true rfl, Nat.le_of_ble_eq_true rfl⟩) hS (fun q _ h => hFc q h) hFc (fun r_u_107 u_107 t9 H locs ht9 hvm hw hB hz1 hk1 hS => ?_)
            have hP := fr_keep hP hk1
            have wu_107 := hw
            clear hFc hk1 hz1 hB hw
            refine lv_iadd hx hb dX12_deafAt_128 ?_
            refine lv_topi (fun v_108 ev_108 => ?_)
            refine lv_aload_n hx hb dX12_deafAt_129 rfl (lv_at hl 7 rfl) ?_
            refine lv_iload_n hx hb dX12_deafAt_130 rfl (lv_at hl 9 rfl) ?_
            refine lv_iload_n hx hb dX12_deafAt_131 rfl (lv_at hl 10 rfl) ?_
            refine lv_iload hx hb dX12_deafAt_132 (lv_at hl 4 rfl) ?_
            refine lv_iadd hx hb dX12_deafAt_134 ?_
            refine lv_topi (fun v_109 ev_109 => ?_)
            have q_110 : v_109.toInt = n3.toInt + x7_1.toInt := ow_add ev_109 (by omega) (by omega)
            refine lv_iconst (v := 1) hx hb dX12_deafAt_135 (by decide) ?_
            refine lv_isub hx hb dX12_deafAt_136 ?_
            refine lv_topi (fun v_111 ev_111 => ?_)
            have q_112 : v_111.toInt = v_109.toInt - (1 : Int32).toInt := ow_sub ev_111 (by omega) (by omega)
            refine lv_iconst (v := 1) hx hb dX12_deafAt_137 (by decide) ?_
            refine lv_iload hx hb dX12_deafAt_138 (lv_at hl 11 rfl) ?_
            have hFc := fr_new hS hA
            refine va_calli (va_runV (As := [.int n2, .int v_111, .int 1, .int n4]) (rest := [.int v_108, .int x6_1, .int v_104, .int 1]) ⟨hx, hb, hml, hown, ht⟩ (m_moved l G cy _ mo h T v nm f g n2 v_111 (1) n4  hv hf hR hL (by omega) (by omega)) (cwV 4 ht (gv k_110 k_111 k_112 k_61 k_109) rfl rfl rfl (by decide +kernel) ⟨Nat.le_of_ble_eq_true rfl, Nat.le_of_ble_eq_true rfl⟩) ⟨En.blind, va_recv hK hP (ci := 12) (q0 := 0) rfl rfl, fun U hU hW => ⟨rfl, En.of hU hW hP hK hD0 hN⟩⟩ rfl rfl hl.1 rfl (lv_room (Nat.le_of_ble_eq_true rfl)) dX12_deafAt_140 ⟨Nat.le_of_ble_eq_true rfl, Nat.le_of_ble_eq_true rfl⟩) hS (fun q _ h => hFc q h) hFc (fun r_u_113 u_113 t9 H locs ht9 hvm hw hB hz1 hk1 hS => ?_)
            have hP := fr_keep hP hk1
            have wu_113 := hw
            clear hFc hk1 hz1 hB hw
            refine lv_isub hx hb dX12_deafAt_143 ?_
            refine lv_topi (fun v_114 ev_114 => ?_)
            have hFc := fr_new hS hA
            refine va_calli (va_runS (As := [.int v_114]) (rest := [.int x6_1, .int v_104, .int 1]) ⟨hx, hb, hml, hown, ht⟩ (m_away l G cy _  v_114  ) (va_cwS 1 ht (gs k_75 k_76 k_61 k_74) rfl rfl rfl (by decide +kernel) ⟨Nat.le_of_ble_eq_true rfl, Nat.le_of_ble_eq_true rfl⟩) ⟨En.blind, fun U hU hW => ⟨rfl, En.of hU hW (va_P0 (H := _)) hK va_D0 hN⟩⟩ rfl rfl hl.1 rfl (lv_room (Nat.le_of_ble_eq_true rfl)) dX12_deafAt_144 ⟨Nat.le_of_ble_eq_true rfl, Nat.le_of_ble_eq_true rfl⟩) hS (fun q _ h => hFc q h) hFc (fun r_u_115 u_115 t9 H locs ht9 hvm hw hB hz1 hk1 hS => ?_)
            have hP := fr_keep hP hk1
            have wu_115 := hw
            clear hFc hk1 hz1 hB hw
            refine lv_iadd hx hb dX12_deafAt_147 ?_
            refine lv_topi (fun v_116 ev_116 => ?_)
            have hFc := fr_new hS hA
            refine va_calli (va_runS (As := [.int v_104, .int v_116]) (rest := [.int 1]) ⟨hx, hb, hml, hown, ht⟩ (m_lower l G cy _  v_104 v_116  ) (va_cwS 2 ht (gs k_107 k_108 k_61 k_106) rfl rfl rfl (by decide +kernel) ⟨Nat.le_of_ble_eq_true rfl, Nat.le_of_ble_eq_true rfl⟩) ⟨En.blind, fun U hU hW => ⟨rfl, En.of hU hW (va_P0 (H := _)) hK va_D0 hN⟩⟩ rfl rfl hl.1 rfl (lv_room (Nat.le_of_ble_eq_true rfl)) dX12_deafAt_148 ⟨Nat.le_of_ble_eq_true rfl, Nat.le_of_ble_eq_true rfl⟩) hS (fun q _ h => hFc q h) hFc (fun r_u_117 u_117 t9 H locs ht9 hvm hw hB hz1 hk1 hS => ?_)
            have hP := fr_keep hP hk1
            have wu_117 := hw
            clear hFc hk1 hz1 hB hw
            refine lv_iadd hx hb dX12_deafAt_151 ?_
            refine lv_topi (fun v_118 ev_118 => ?_)
            refine lv_istore (lv' := [(9, .int v_118), (11, .int v_92), (10, .int 1), (8, .int 1), (7, .int x7_1), (6, .int x6_1), (5, .int x5_1), (0, .ref mo), (1, .int n), (2, .int n2), (3, .int n3), (4, .int n4)]) hx hb dX12_deafAt_152 hl (by decide) rfl (fun ls hl => ?_)
            refine lv_iload hx hb dX12_deafAt_154 (lv_at hl 2 rfl) ?_
            refine lv_iload hx hb dX12_deafAt_156 (lv_at hl 6 rfl) ?_
            refine lv_iload hx hb dX12_deafAt_158 (lv_at hl 1 rfl) ?_
            refine lv_aload_n hx hb dX12_deafAt_160 rfl (lv_at hl 7 rfl) ?_
            refine lv_iload_n hx hb dX12_deafAt_161 rfl (lv_at hl 9 rfl) ?_
            refine lv_iload_n hx hb dX12_deafAt_162 rfl (lv_at hl 10 rfl) ?_
            refine lv_iload hx hb dX12_deafAt_163 (lv_at hl 4 rfl) ?_
            refine lv_iadd hx hb dX12_deafAt_165 ?_
            refine lv_topi (fun v_119 ev_119 => ?_)
            have q_120 : v_119.toInt = n3.toInt + x7_1.toInt := ow_add ev_119 (by omega) (by omega)
            refine lv_iconst (v := 1) hx hb dX12_deafAt_166 (by decide) ?_
            refine lv_iload hx hb dX12_deafAt_167 (lv_at hl 11 rfl) ?_
            have hFc := fr_new hS hA
            refine va_calli (va_runV (As := [.int n2, .int v_119, .int 1, .int n4]) (rest := [.int v_92, .int x5_1, .int 1]) ⟨hx, hb, hml, hown, ht⟩ (m_moved l G cy _ mo h T v nm f g n2 v_119 (1) n4  hv hf hR hL (by omega) (by omega)) (cwV 4 ht (gv k_110 k_111 k_112 k_61 k_109) rfl rfl rfl (by decide +kernel) ⟨Nat.le_of_ble_eq_true rfl, Nat.le_of_ble_eq_true rfl⟩) ⟨En.blind, va_recv hK hP (ci := 12) (q0 := 0) rfl rfl, fun U hU hW => ⟨rfl, En.of hU hW hP hK hD0 hN⟩⟩ rfl rfl hl.1 rfl (lv_room (Nat.le_of_ble_eq_true rfl)) dX12_deafAt_169 ⟨Nat.le_of_ble_eq_true rfl, Nat.le_of_ble_eq_true rfl⟩) hS (fun q _ h => hFc q h) hFc (fun r_u_121 u_121 t9 H locs ht9 hvm hw hB hz1 hk1 hS => ?_)
            have hP := fr_keep hP hk1
            have wu_121 := hw
            clear hFc hk1 hz1 hB hw
            refine lv_iadd hx hb dX12_deafAt_172 ?_
            refine lv_topi (fun v_122 ev_122 => ?_)
            refine lv_aload_n hx hb dX12_deafAt_173 rfl (lv_at hl 7 rfl) ?_
            refine lv_iload_n hx hb dX12_deafAt_174 rfl (lv_at hl 9 rfl) ?_
            refine lv_iload_n hx hb dX12_deafAt_175 rfl (lv_at hl 10 rfl) ?_
            refine lv_iload hx hb dX12_deafAt_176 (lv_at hl 4 rfl) ?_
            refine lv_iadd hx hb dX12_deafAt_178 ?_
            refine lv_topi (fun v_123 ev_123 => ?_)
            have q_124 : v_123.toInt = n3.toInt + x7_1.toInt := ow_add ev_123 (by omega) (by omega)
            refine lv_iconst (v := 1) hx hb dX12_deafAt_179 (by decide) ?_
            refine lv_isub hx hb dX12_deafAt_180 ?_
            refine lv_topi (fun v_125 ev_125 => ?_)
            have q_126 : v_125.toInt = v_123.toInt - (1 : Int32).toInt := ow_sub ev_125 (by omega) (by omega)
            refine lv_iconst (v := 0) hx hb dX12_deafAt_181 (by decide) ?_
            refine lv_iload hx hb dX12_deafAt_182 (lv_at hl 11 rfl) ?_
            have hFc := fr_new hS hA
            refine va_calli (va_runV (As := [.int n2, .int v_125, .int 0, .int n4]) (rest := [.int v_122, .int x5_1, .int 1]) ⟨hx, hb, hml, hown, ht⟩ (m_moved l G cy _ mo h T v nm f g n2 v_125 (0) n4  hv hf hR hL (by omega) (by omega)) (cwV 4 ht (gv k_110 k_111 k_112 k_61 k_109) rfl rfl rfl (by decide +kernel) ⟨Nat.le_of_ble_eq_true rfl, Nat.le_of_ble_eq_true rfl⟩) ⟨En.blind, va_recv hK hP (ci := 12) (q0 := 0) rfl rfl, fun U hU hW => ⟨rfl, En.of hU hW hP hK hD0 hN⟩⟩ rfl rfl hl.1 rfl (lv_room (Nat.le_of_ble_eq_true rfl)) dX12_deafAt_184 ⟨Nat.le_of_ble_eq_true rfl, Nat.le_of_ble_eq_true rfl⟩) hS (fun q _ h => hFc q h) hFc (fun r_u_127 u_127 t9 H locs ht9 hvm hw hB hz1 hk1 hS => ?_)
            have hP := fr_keep hP hk1
            have wu_127 := hw
            clear hFc hk1 hz1 hB hw
            refine lv_isub hx hb dX12_deafAt_187 ?_
            refine lv_topi (fun v_128 ev_128 => ?_)
            have hFc := fr_new hS hA
            refine va_calli (va_runS (As := [.int v_128]) (rest := [.int x5_1, .int 1]) ⟨hx, hb, hml, hown, ht⟩ (m_away l G cy _  v_128  ) (va_cwS 1 ht (gs k_75 k_76 k_61 k_74) rfl rfl rfl (by decide +kernel) ⟨Nat.le_of_ble_eq_true rfl, Nat.le_of_ble_eq_true rfl⟩) ⟨En.blind, fun U hU hW => ⟨rfl, En.of hU hW (va_P0 (H := _)) hK va_D0 hN⟩⟩ rfl rfl hl.1 rfl (lv_room (Nat.le_of_ble_eq_true rfl)) dX12_deafAt_188 ⟨Nat.le_of_ble_eq_true rfl, Nat.le_of_ble_eq_true rfl⟩) hS (fun q _ h => hFc q h) hFc (fun r_u_129 u_129 t9 H locs ht9 hvm hw hB hz1 hk1 hS => ?_)
            have hP := fr_keep hP hk1
            have wu_129 := hw
            clear hFc hk1 hz1 hB hw
            refine lv_iadd hx hb dX12_deafAt_191 ?_
            refine lv_topi (fun v_130 ev_130 => ?_)
            refine lv_iload hx hb dX12_deafAt_192 (lv_at hl 5 rfl) ?_
            refine lv_iload hx hb dX12_deafAt_194 (lv_at hl 1 rfl) ?_
            refine lv_aload_n hx hb dX12_deafAt_196 rfl (lv_at hl 7 rfl) ?_
            refine lv_iload_n hx hb dX12_deafAt_197 rfl (lv_at hl 9 rfl) ?_
            refine lv_iload_n hx hb dX12_deafAt_198 rfl (lv_at hl 10 rfl) ?_
            refine lv_iload hx hb dX12_deafAt_199 (lv_at hl 4 rfl) ?_
            refine lv_iadd hx hb dX12_deafAt_201 ?_
            refine lv_topi (fun v_131 ev_131 => ?_)
            have q_132 : v_131.toInt = n3.toInt + x7_1.toInt := ow_add ev_131 (by omega) (by omega)
            refine lv_iconst (v := 1) hx hb dX12_deafAt_202 (by decide) ?_
            refine lv_iload hx hb dX12_deafAt_203 (lv_at hl 11 rfl) ?_
            have hFc := fr_new hS hA
            refine va_calli (va_runV (As := [.int n2, .int v_131, .int 1, .int n4]) (rest := [.int v_92, .int x6_1, .int v_130, .int 1]) ⟨hx, hb, hml, hown, ht⟩ (m_moved l G cy _ mo h T v nm f g n2 v_131 (1) n4  hv hf hR hL (by omega) (by omega)) (cwV 4 ht (gv k_110 k_111 k_112 k_61 k_109) rfl rfl rfl (by decide +kernel) ⟨Nat.le_of_ble_eq_true rfl, Nat.le_of_ble_eq_true rfl⟩) ⟨En.blind, va_recv hK hP (ci := 12) (q0 := 0) rfl rfl, fun U hU hW => ⟨rfl, En.of hU hW hP hK hD0 hN⟩⟩ rfl rfl hl.1 rfl (lv_room (Nat.le_of_ble_eq_true rfl)) dX12_deafAt_205 ⟨Nat.le_of_ble_eq_true rfl, Nat.le_of_ble_eq_true rfl⟩) hS (fun q _ h => hFc q h) hFc (fun r_u_133 u_133 t9 H locs ht9 hvm hw hB hz1 hk1 hS => ?_)
            have hP := fr_keep hP hk1
            have wu_133 := hw
            clear hFc hk1 hz1 hB hw
            refine lv_iadd hx hb dX12_deafAt_208 ?_
            refine lv_topi (fun v_134 ev_134 => ?_)
            refine lv_aload_n hx hb dX12_deafAt_209 rfl (lv_at hl 7 rfl) ?_
            refine lv_iload_n hx hb dX12_deafAt_210 rfl (lv_at hl 9 rfl) ?_
            refine lv_iload_n hx hb dX12_deafAt_211 rfl (lv_at hl 10 rfl) ?_
            refine lv_iload hx hb dX12_deafAt_212 (lv_at hl 4 rfl) ?_
            refine lv_iadd hx hb dX12_deafAt_214 ?_
            refine lv_topi (fun v_135 ev_135 => ?_)
            have q_136 : v_135.toInt = n3.toInt + x7_1.toInt := ow_add ev_135 (by omega) (by omega)
            refine lv_iconst (v := 1) hx hb dX12_deafAt_215 (by decide) ?_
            refine lv_isub hx hb dX12_deafAt_216 ?_
            refine lv_topi (fun v_137 ev_137 => ?_)
            have q_138 : v_137.toInt = v_135.toInt - (1 : Int32).toInt := ow_sub ev_137 (by omega) (by omega)
            refine lv_iconst (v := 1) hx hb dX12_deafAt_217 (by decide) ?_
            refine lv_iload hx hb dX12_deafAt_218 (lv_at hl 11 rfl) ?_
            have hFc := fr_new hS hA
            refine va_calli (va_runV (As := [.int n2, .int v_137, .int 1, .int n4]) (rest := [.int v_134, .int x6_1, .int v_130, .int 1]) ⟨hx, hb, hml, hown, ht⟩ (m_moved l G cy _ mo h T v nm f g n2 v_137 (1) n4  hv hf hR hL (by omega) (by omega)) (cwV 4 ht (gv k_110 k_111 k_112 k_61 k_109) rfl rfl rfl (by decide +kernel) ⟨Nat.le_of_ble_eq_true rfl, Nat.le_of_ble_eq_true rfl⟩) ⟨En.blind, va_recv hK hP (ci := 12) (q0 := 0) rfl rfl, fun U hU hW => ⟨rfl, En.of hU hW hP hK hD0 hN⟩⟩ rfl rfl hl.1 rfl (lv_room (Nat.le_of_ble_eq_true rfl)) dX12_deafAt_220 ⟨Nat.le_of_ble_eq_true rfl, Nat.le_of_ble_eq_true rfl⟩) hS (fun q _ h => hFc q h) hFc (fun r_u_139 u_139 t9 H locs ht9 hvm hw hB hz1 hk1 hS => ?_)
            have hP := fr_keep hP hk1
            have wu_139 := hw
            clear hFc hk1 hz1 hB hw
            refine lv_isub hx hb dX12_deafAt_223 ?_
            refine lv_topi (fun v_140 ev_140 => ?_)
            have hFc := fr_new hS hA
            refine va_calli (va_runS (As := [.int v_140]) (rest := [.int x6_1, .int v_130, .int 1]) ⟨hx, hb, hml, hown, ht⟩ (m_away l G cy _  v_140  ) (va_cwS 1 ht (gs k_75 k_76 k_61 k_74) rfl rfl rfl (by decide +kernel) ⟨Nat.le_of_ble_eq_true rfl, Nat.le_of_ble_eq_true rfl⟩) ⟨En.blind, fun U hU hW => ⟨rfl, En.of hU hW (va_P0 (H := _)) hK va_D0 hN⟩⟩ rfl rfl hl.1 rfl (lv_room (Nat.le_of_ble_eq_true rfl)) dX12_deafAt_224 ⟨Nat.le_of_ble_eq_true rfl, Nat.le_of_ble_eq_true rfl⟩) hS (fun q _ h => hFc q h) hFc (fun r_u_141 u_141 t9 H locs ht9 hvm hw hB hz1 hk1 hS => ?_)
            have hP := fr_keep hP hk1
            have wu_141 := hw
            clear hFc hk1 hz1 hB hw
            refine lv_iadd hx hb dX12_deafAt_227 ?_
            refine lv_topi (fun v_142 ev_142 => ?_)
            have hFc := fr_new hS hA
            refine va_calli (va_runS (As := [.int v_130, .int v_142]) (rest := [.int 1]) ⟨hx, hb, hml, hown, ht⟩ (m_lower l G cy _  v_130 v_142  ) (va_cwS 2 ht (gs k_107 k_108 k_61 k_106) rfl rfl rfl (by decide +kernel) ⟨Nat.le_of_ble_eq_true rfl, Nat.le_of_ble_eq_true rfl⟩) ⟨En.blind, fun U hU hW => ⟨rfl, En.of hU hW (va_P0 (H := _)) hK va_D0 hN⟩⟩ rfl rfl hl.1 rfl (lv_room (Nat.le_of_ble_eq_true rfl)) dX12_deafAt_228 ⟨Nat.le_of_ble_eq_true rfl, Nat.le_of_ble_eq_true rfl⟩) hS (fun q _ h => hFc q h) hFc (fun r_u_143 u_143 t9 H locs ht9 hvm hw hB hz1 hk1 hS => ?_)
            have hP := fr_keep hP hk1
            have wu_143 := hw
            clear hFc hk1 hz1 hB hw
            refine lv_iadd hx hb dX12_deafAt_231 ?_
            refine lv_topi (fun v_144 ev_144 => ?_)
            refine lv_istore (lv' := [(10, .int v_144), (9, .int v_118), (11, .int v_92), (8, .int 1), (7, .int x7_1), (6, .int x6_1), (5, .int x5_1), (0, .ref mo), (1, .int n), (2, .int n2), (3, .int n3), (4, .int n4)]) hx hb dX12_deafAt_232 hl (by decide) rfl (fun ls hl => ?_)
            refine lv_iload hx hb dX12_deafAt_234 (lv_at hl 1 rfl) ?_
            refine lv_istore (lv' := [(5, .int v_118), (10, .int v_144), (9, .int v_118), (11, .int v_92), (8, .int 1), (7, .int x7_1), (6, .int x6_1), (0, .ref mo), (1, .int n), (2, .int n2), (3, .int n3), (4, .int n4)]) hx hb dX12_deafAt_236 hl (by decide) rfl (fun ls hl => ?_)
            refine lv_iload hx hb dX12_deafAt_238 (lv_at hl 1 rfl) ?_
            refine lv_istore (lv' := [(6, .int v_144), (5, .int v_118), (10, .int v_144), (9, .int v_118), (11, .int v_92), (8, .int 1), (7, .int x7_1), (0, .ref mo), (1, .int n), (2, .int n2), (3, .int n3), (4, .int n4)]) hx hb dX12_deafAt_240 hl (by decide) rfl (fun ls hl => ?_)
            obtain ⟨v_145, ev_145⟩ : ∃ y : Int32, y = x7_1 + 1 := ⟨_, rfl⟩
            refine lv_iinc (v := v_145) (lv' := [(7, .int v_145), (6, .int v_144), (5, .int v_118), (10, .int v_144), (9, .int v_118), (11, .int v_92), (8, .int 1), (0, .ref mo), (1, .int n), (2, .int n2), (3, .int n3), (4, .int n4)]) hx hb dX12_deafAt_242 hl (k := 6) rfl (by rw [ev_145]; rfl) (by decide) rfl (fun ls hl => ?_)
            have q_146 : v_145.toInt = x7_1.toInt + 1 := by have := ow_add ev_145 (by omega) (by omega); omega
            refine lv_goto (tgt := 9) hx hb dX12_deafAt_245 (by decide) ?_
            refine W.widen (k := 0) (n := 0) (Nat.le_of_ble_eq_true rfl) (Nat.le_of_ble_eq_true rfl) ?_
            exact ih_1 v_145 v_144 v_118 _ _ _ (by omega) (by omega) hP hS (lv_sub hl [0, 1, 2, 7, 8, 9, 10, 11] rfl)
  exact lp_1 _ (0) (0) (0) _ _ _ (by omega) (Nat.lt_succ_self _) hP hS (lv_sub hl [0, 1, 2, 3, 4, 5, 6, 7] rfl)
set_option maxHeartbeats 4000000 in
set_option maxRecDepth 100000 in
theorem m_deaf (l : Launch) (G : va_G) (cy : Nat → ClassId) (sz : Nat) (mo : Nat) (h : Nat → Nat) (T : Int) (v : Nat → Int32) (nm : Int64) (f : Nat → Nat → Int32) (g : Nat → Nat → Int64) (n : Int32) (n2 : Int32) (n3 : Int32)  (hv : MIv T v) (hf : MIf f) (hR : RI v f) (hL : WL v f)  : Met l yX12_deaf (.code yX12_deaf cX12_deaf 7 (some .int) :: TBg) ({ frames := 3, cells := 0, slots := 0, locals := 192 }) (va_Pc [.ref mo, .int n, .int n2, .int n3] (En G cy (WMs cy mo h v nm f g) sz)) (va_Qi (fun (r : Int32) (_ : Unit) => True) (fun _ _ => True) (va_A [] sz)) 0 0 (va_A [] sz) := by
  refine Met.ofW (cc := cX12_deaf) (maxL := 7) (ret := (some .int)) (by decide) rfl ?_
  intro p e s m args below meth c s₁ B hml hv9
  obtain ⟨rfl, hsz, hP, hK, hD0, hN⟩ := hv9
  have hx := B.exec
  have hb := B.bytes
  have hr := B.returns
  have hts := atoms_spec (ws := .code yX12_deaf cX12_deaf 7 (some .int) :: TBg) B.pre
  have ht : ∀ w ∈ TBg, w.before _ s = true := fun w h => hts w (List.mem_cons_of_mem _ h)
  have hown : s.vm.findClass RX12 = some m.cls := findClass_of_methodNamed B.named
  have hlocks := B.notSynchronized
  subst hsz
  generalize hAe : va_A [] s.heap.size = A at ⊢
  have hA : ∀ q : Nat, s.heap.size ≤ q → A q := fun q h => by rw [← hAe]; exact Or.inr h
  have hS : va_S A s.heap s.heap [] := va_S.rf
  have hl := lv_entry ([.ref mo, .int n, .int n2, .int n3]) (n := 7) (Nat.le_of_ble_eq_true rfl)
  rw [lg_entry_eq]
  generalize (lg_sl ([.ref mo, .int n, .int n2, .int n3]) ++ List.replicate (7 - (lg_sl ([.ref mo, .int n, .int n2, .int n3])).length) Slot.unset).toArray = ls at hl ⊢
  have hl : lv_has ls 7 [(0, .ref mo), (1, .int n), (2, .int n2), (3, .int n3)] := hl
  have z0 : (-1 : Int32).toInt = -1 := by decide
  have z1 : (0 : Int32).toInt = 0 := by decide
  have z2 : (1 : Int32).toInt = 1 := by decide
  have z3 : (11 : Int32).toInt = 11 := by decide
  refine lv_aload_n hx hb dX12_deaf_0 rfl (lv_at hl 0 rfl) ?_
  refine lv_iload_n hx hb dX12_deaf_1 rfl (lv_at hl 1 rfl) ?_
  have hFc := fr_new hS hA
  refine va_calli (va_runV (As := [.int n]) (rest := []) ⟨hx, hb, hml, hown, ht⟩ (m_isTune l G cy _ mo h T v nm f g n  hv hf hR hL) (cwV 1 ht (gv k_90 k_91 k_92 k_61 k_89) rfl rfl rfl (by decide +kernel) ⟨Nat.le_of_ble_eq_true rfl, Nat.le_of_ble_eq_true rfl⟩) ⟨En.blind, va_recv hK hP (ci := 12) (q0 := 0) rfl rfl, fun U hU hW => ⟨rfl, En.of hU hW hP hK hD0 hN⟩⟩ rfl rfl hl.1 rfl (lv_room (Nat.le_of_ble_eq_true rfl)) dX12_deaf_2 ⟨Nat.le_of_ble_eq_true rfl, Nat.le_of_ble_eq_true rfl⟩) hS (fun q _ h => hFc q h) hFc (fun r_u_1 u_1 t9 H locs ht9 hvm hw hB hz1 hk1 hS => ?_)
  have hP := fr_keep hP hk1
  have wu_1 := hw
  clear hFc hk1 hz1 hB hw
  refine lv_if_eq (tgt := 26) hx hb dX12_deaf_5 (by decide) (fun c_2 => ?_) (fun c_2 => ?_)
  · have q_3 : r_u_1.toInt = (0 : Int32).toInt := (ow_eq _ _).mp c_2
    refine lv_iconst (v := (-1)) hx hb dX12_deaf_26 (by decide) ?_
    refine W.widen (k := 0) (n := 0) (Nat.le_of_ble_eq_true rfl) (Nat.le_of_ble_eq_true rfl) ?_
    exact W.iret (v := (-1)) hx hb hr (fun t ht9 hW => ⟨⟨(-1), (), rfl, trivial, trivial⟩, hS.F ht9⟩) hS.2.2 dX12_deaf_27
  · have q_4 : ¬ r_u_1.toInt = (0 : Int32).toInt := by have := (not_congr (ow_eq _ _)).mp c_2; omega
    refine lv_aload_n hx hb dX12_deaf_8 rfl (lv_at hl 0 rfl) ?_
    refine lv_iload_n hx hb dX12_deaf_9 rfl (lv_at hl 2 rfl) ?_
    have hFc := fr_new hS hA
    refine va_calli (va_runV (As := [.int n2]) (rest := []) ⟨hx, hb, hml, hown, ht⟩ (m_isTune l G cy _ mo h T v nm f g n2  hv hf hR hL) (cwV 1 ht (gv k_90 k_91 k_92 k_61 k_89) rfl rfl rfl (by decide +kernel) ⟨Nat.le_of_ble_eq_true rfl, Nat.le_of_ble_eq_true rfl⟩) ⟨En.blind, va_recv hK hP (ci := 12) (q0 := 0) rfl rfl, fun U hU hW => ⟨rfl, En.of hU hW hP hK hD0 hN⟩⟩ rfl rfl hl.1 rfl (lv_room (Nat.le_of_ble_eq_true rfl)) dX12_deaf_10 ⟨Nat.le_of_ble_eq_true rfl, Nat.le_of_ble_eq_true rfl⟩) hS (fun q _ h => hFc q h) hFc (fun r_u_5 u_5 t9 H locs ht9 hvm hw hB hz1 hk1 hS => ?_)
    have hP := fr_keep hP hk1
    have wu_5 := hw
    clear hFc hk1 hz1 hB hw
    refine lv_if_eq (tgt := 26) hx hb dX12_deaf_13 (by decide) (fun c_6 => ?_) (fun c_6 => ?_)
    · have q_7 : r_u_5.toInt = (0 : Int32).toInt := (ow_eq _ _).mp c_6
      refine lv_iconst (v := (-1)) hx hb dX12_deaf_26 (by decide) ?_
      refine W.widen (k := 0) (n := 0) (Nat.le_of_ble_eq_true rfl) (Nat.le_of_ble_eq_true rfl) ?_
      exact W.iret (v := (-1)) hx hb hr (fun t ht9 hW => ⟨⟨(-1), (), rfl, trivial, trivial⟩, hS.F ht9⟩) hS.2.2 dX12_deaf_27
    · have q_8 : ¬ r_u_5.toInt = (0 : Int32).toInt := by have := (not_congr (ow_eq _ _)).mp c_6; omega
      refine lv_iload_n hx hb dX12_deaf_16 rfl (lv_at hl 3 rfl) ?_
      refine lv_iconst (v := 0) hx hb dX12_deaf_17 (by decide) ?_
      refine lv_bipush (v := 11) hx hb dX12_deaf_18 (by decide) ?_
      have hFc := fr_new hS hA
      refine va_calli (va_runS (As := [.int n3, .int 0, .int 11]) (rest := []) ⟨hx, hb, hml, hown, ht⟩ (m_isIn l G cy _  n3 (0) (11)  ) (va_cwS 3 ht (gs k_59 k_60 k_61 k_58) rfl rfl rfl (by decide +kernel) ⟨Nat.le_of_ble_eq_true rfl, Nat.le_of_ble_eq_true rfl⟩) ⟨En.blind, fun U hU hW => ⟨rfl, En.of hU hW (va_P0 (H := _)) hK va_D0 hN⟩⟩ rfl rfl hl.1 rfl (lv_room (Nat.le_of_ble_eq_true rfl)) dX12_deaf_20 ⟨Nat.le_of_ble_eq_true rfl, Nat.le_of_ble_eq_true rfl⟩) hS (fun q _ h => hFc q h) hFc (fun r_u_9 u_9 t9 H locs ht9 hvm hw hB hz1 hk1 hS => ?_)
      have hP := fr_keep hP hk1
      have wu_9 := hw
      clear hFc hk1 hz1 hB hw
      refine lv_if_ne (tgt := 28) hx hb dX12_deaf_23 (by decide) (fun c_10 => ?_) (fun c_10 => ?_)
      · have q_11 : ¬ r_u_9.toInt = (0 : Int32).toInt := by have := (not_congr (ow_eq _ _)).mp c_10; omega
        refine lv_iconst (v := (-1)) hx hb dX12_deaf_28 (by decide) ?_
        refine lv_istore (lv' := [(4, .int (-1)), (0, .ref mo), (1, .int n), (2, .int n2), (3, .int n3)]) hx hb dX12_deaf_29 hl (by decide) rfl (fun ls hl => ?_)
        refine lv_iconst (v := 0) hx hb dX12_deaf_31 (by decide) ?_
        refine lv_istore (lv' := [(5, .int 0), (4, .int (-1)), (0, .ref mo), (1, .int n), (2, .int n2), (3, .int n3)]) hx hb dX12_deaf_32 hl (by decide) rfl (fun ls hl => ?_)
        refine W.widen (k := 0) (n := 0) (Nat.le_of_ble_eq_true rfl) (Nat.le_of_ble_eq_true rfl) ?_
        have lp_12 : ∀ (N : Nat) (x5_12 : Int32) (x4_12 : Int32) (H : Heap) (locs : List Loc) (ls : Array Slot), (0 ≤ x5_12.toInt ∧ x5_12.toInt ≤ 41) → (41 - x5_12.toInt).toNat < N → va_P G vwCl (WMs cy mo h v nm f g) H → va_S A s.heap H locs → lv_has ls 7 [(5, .int x5_12), (4, .int x4_12), (0, .ref mo), (1, .int n), (2, .int n2), (3, .int n3)] → W p l e (headSpec (.code yX12_deaf cX12_deaf 7 (some .int) :: TBg) ({ frames := 3, cells := 0, slots := 0, locals := 192 })).room s m ([.ref mo, .int n, .int n2, .int n3] : List Value).toArray below meth c H locs 0 0 (MQ below (va_Qi (fun (r : Int32) (_ : Unit) => True) (fun _ _ => True) A) ([.ref mo, .int n, .int n2, .int n3] : List Value).toArray s 0 0 A) (F0 m 34 ls []) := by
          intro N
          induction N with
          | zero => intro x5_12 x4_12 H locs ls qf12_0 hm hP hS hl; exact absurd hm (Nat.not_lt_zero _)
          | succ N ih_12 =>
            intro x5_12 x4_12 H locs ls qf12_0 hm hP hS hl
            refine lv_iload hx hb dX12_deaf_34 (lv_at hl 0 rfl) ?_
            refine lv_aload_n hx hb dX12_deaf_36 rfl (lv_at hl 2 rfl) ?_
            refine lv_aload_n hx hb dX12_deaf_37 rfl (lv_at hl 2 rfl) ?_
            refine lv_iload_n hx hb dX12_deaf_38 rfl (lv_at hl 3 rfl) ?_
            have hFc := fr_new hS hA
            refine va_calli (va_runV (As := [.int n]) (rest := [.ref mo, .int x5_12]) ⟨hx, hb, hml, hown, ht⟩ (m_songOf l G cy _ mo h T v nm f g n  hv hf hR hL (by omega)) (cwV 1 ht (gv k_94 k_95 k_96 k_61 k_93) rfl rfl rfl (by decide +kernel) ⟨Nat.le_of_ble_eq_true rfl, Nat.le_of_ble_eq_true rfl⟩) ⟨En.blind, va_recv hK hP (ci := 12) (q0 := 0) rfl rfl, fun U hU hW => ⟨rfl, En.of hU hW hP hK hD0 hN⟩⟩ rfl rfl hl.1 rfl (lv_room (Nat.le_of_ble_eq_true rfl)) dX12_deaf_39 ⟨Nat.le_of_ble_eq_true rfl, Nat.le_of_ble_eq_true rfl⟩) hS (fun q _ h => hFc q h) hFc (fun r_u_13 u_13 t9 H locs ht9 hvm hw hB hz1 hk1 hS => ?_)
            have hP := fr_keep hP hk1
            have wu_13 := hw
            clear hFc hk1 hz1 hB hw
            have hFc := fr_new hS hA
            refine va_calli (va_runV (As := [.int r_u_13]) (rest := [.int x5_12]) ⟨hx, hb, hml, hown, ht⟩ (m_many27 l G cy _ mo h T v nm f g r_u_13  hv hf hR hL (by omega)) (cwV 1 ht (gv k_63 k_64 k_65 k_61 k_62) rfl rfl rfl (by decide +kernel) ⟨Nat.le_of_ble_eq_true rfl, Nat.le_of_ble_eq_true rfl⟩) ⟨En.blind, va_recv hK hP (ci := 12) (q0 := 0) rfl rfl, fun U hU hW => ⟨rfl, En.of hU hW hP hK hD0 hN⟩⟩ rfl rfl hl.1 rfl (lv_room (Nat.le_of_ble_eq_true rfl)) dX12_deaf_42 ⟨Nat.le_of_ble_eq_true rfl, Nat.le_of_ble_eq_true rfl⟩) hS (fun q _ h => hFc q h) hFc (fun r_u_14 u_14 t9 H locs ht9 hvm hw hB hz1 hk1 hS => ?_)
            have hP := fr_keep hP hk1
            have wu_14 := hw
            clear hFc hk1 hz1 hB hw
            refine lv_iadd hx hb dX12_deaf_45 ?_
            refine lv_topi (fun v_15 ev_15 => ?_)
            have q_16 : v_15.toInt = x5_12.toInt + r_u_14.toInt := ow_add ev_15 (by omega) (by omega)
            refine lv_aload_n hx hb dX12_deaf_46 rfl (lv_at hl 2 rfl) ?_
            refine lv_aload_n hx hb dX12_deaf_47 rfl (lv_at hl 2 rfl) ?_
            refine lv_iload_n hx hb dX12_deaf_48 rfl (lv_at hl 4 rfl) ?_
            have hFc := fr_new hS hA
            refine va_calli (va_runV (As := [.int n2]) (rest := [.ref mo, .int v_15]) ⟨hx, hb, hml, hown, ht⟩ (m_songOf l G cy _ mo h T v nm f g n2  hv hf hR hL (by omega)) (cwV 1 ht (gv k_94 k_95 k_96 k_61 k_93) rfl rfl rfl (by decide +kernel) ⟨Nat.le_of_ble_eq_true rfl, Nat.le_of_ble_eq_true rfl⟩) ⟨En.blind, va_recv hK hP (ci := 12) (q0 := 0) rfl rfl, fun U hU hW => ⟨rfl, En.of hU hW hP hK hD0 hN⟩⟩ rfl rfl hl.1 rfl (lv_room (Nat.le_of_ble_eq_true rfl)) dX12_deaf_49 ⟨Nat.le_of_ble_eq_true rfl, Nat.le_of_ble_eq_true rfl⟩) hS (fun q _ h => hFc q h) hFc (fun r_u_17 u_17 t9 H locs ht9 hvm hw hB hz1 hk1 hS => ?_)
            have hP := fr_keep hP hk1
            have wu_17 := hw
            clear hFc hk1 hz1 hB hw
            have hFc := fr_new hS hA
            refine va_calli (va_runV (As := [.int r_u_17]) (rest := [.int v_15]) ⟨hx, hb, hml, hown, ht⟩ (m_many27 l G cy _ mo h T v nm f g r_u_17  hv hf hR hL (by omega)) (cwV 1 ht (gv k_63 k_64 k_65 k_61 k_62) rfl rfl rfl (by decide +kernel) ⟨Nat.le_of_ble_eq_true rfl, Nat.le_of_ble_eq_true rfl⟩) ⟨En.blind, va_recv hK hP (ci := 12) (q0 := 0) rfl rfl, fun U hU hW => ⟨rfl, En.of hU hW hP hK hD0 hN⟩⟩ rfl rfl hl.1 rfl (lv_room (Nat.le_of_ble_eq_true rfl)) dX12_deaf_52 ⟨Nat.le_of_ble_eq_true rfl, Nat.le_of_ble_eq_true rfl⟩) hS (fun q _ h => hFc q h) hFc (fun r_u_18 u_18 t9 H locs ht9 hvm hw hB hz1 hk1 hS => ?_)
            have hP := fr_keep hP hk1
            have wu_18 := hw
            clear hFc hk1 hz1 hB hw
            refine lv_icmp_gt (tgt := 104) hx hb dX12_deaf_55 (by decide) (fun c_19 => ?_) (fun c_19 => ?_)
            · have q_20 : r_u_18.toInt < v_15.toInt := (ow_lt _ _).mp c_19
              refine lv_iload hx hb dX12_deaf_104 (lv_at hl 1 rfl) ?_
              refine W.widen (k := 0) (n := 0) (Nat.le_of_ble_eq_true rfl) (Nat.le_of_ble_eq_true rfl) ?_
              exact W.iret (v := x4_12) hx hb hr (fun t ht9 hW => ⟨⟨x4_12, (), rfl, trivial, trivial⟩, hS.F ht9⟩) hS.2.2 dX12_deaf_106
            · have q_21 : v_15.toInt ≤ r_u_18.toInt := by have := (not_congr (ow_lt _ _)).mp c_19; omega
              refine lv_aload_n hx hb dX12_deaf_58 rfl (lv_at hl 2 rfl) ?_
              refine lv_aload_n hx hb dX12_deaf_59 rfl (lv_at hl 2 rfl) ?_
              refine lv_iload_n hx hb dX12_deaf_60 rfl (lv_at hl 3 rfl) ?_
              have hFc := fr_new hS hA
              refine va_calli (va_runV (As := [.int n]) (rest := [.ref mo]) ⟨hx, hb, hml, hown, ht⟩ (m_songOf l G cy _ mo h T v nm f g n  hv hf hR hL (by omega)) (cwV 1 ht (gv k_94 k_95 k_96 k_61 k_93) rfl rfl rfl (by decide +kernel) ⟨Nat.le_of_ble_eq_true rfl, Nat.le_of_ble_eq_true rfl⟩) ⟨En.blind, va_recv hK hP (ci := 12) (q0 := 0) rfl rfl, fun U hU hW => ⟨rfl, En.of hU hW hP hK hD0 hN⟩⟩ rfl rfl hl.1 rfl (lv_room (Nat.le_of_ble_eq_true rfl)) dX12_deaf_61 ⟨Nat.le_of_ble_eq_true rfl, Nat.le_of_ble_eq_true rfl⟩) hS (fun q _ h => hFc q h) hFc (fun r_u_22 u_22 t9 H locs ht9 hvm hw hB hz1 hk1 hS => ?_)
              have hP := fr_keep hP hk1
              have wu_22 := hw
              clear hFc hk1 hz1 hB hw
              refine lv_aload_n hx hb dX12_deaf_64 rfl (lv_at hl 2 rfl) ?_
              refine lv_iload_n hx hb dX12_deaf_65 rfl (lv_at hl 4 rfl) ?_
              have hFc := fr_new hS hA
              refine va_calli (va_runV (As := [.int n2]) (rest := [.int r_u_22, .ref mo]) ⟨hx, hb, hml, hown, ht⟩ (m_songOf l G cy _ mo h T v nm f g n2  hv hf hR hL (by omega)) (cwV 1 ht (gv k_94 k_95 k_96 k_61 k_93) rfl rfl rfl (by decide +kernel) ⟨Nat.le_of_ble_eq_true rfl, Nat.le_of_ble_eq_true rfl⟩) ⟨En.blind, va_recv hK hP (ci := 12) (q0 := 0) rfl rfl, fun U hU hW => ⟨rfl, En.of hU hW hP hK hD0 hN⟩⟩ rfl rfl hl.1 rfl (lv_room (Nat.le_of_ble_eq_true rfl)) dX12_deaf_66 ⟨Nat.le_of_ble_eq_true rfl, Nat.le_of_ble_eq_true rfl⟩) hS (fun q _ h => hFc q h) hFc (fun r_u_23 u_23 t9 H locs ht9 hvm hw hB hz1 hk1 hS => ?_)
              have hP := fr_keep hP hk1
              have wu_23 := hw
              clear hFc hk1 hz1 hB hw
              refine lv_iload hx hb dX12_deaf_69 (lv_at hl 0 rfl) ?_
              refine lv_iload_n hx hb dX12_deaf_71 rfl (lv_at hl 5 rfl) ?_
              have hFc := fr_new hS hA
              refine va_calli (va_runV (As := [.int r_u_22, .int r_u_23, .int x5_12, .int n3]) (rest := []) ⟨hx, hb, hml, hown, ht⟩ (m_deafAt l G cy _ mo h T v nm f g r_u_22 r_u_23 x5_12 n3  hv hf hR hL (by omega) (by omega) (by omega)) (cwV 4 ht (gv k_114 k_115 k_116 k_61 k_113) rfl rfl rfl (by decide +kernel) ⟨Nat.le_of_ble_eq_true rfl, Nat.le_of_ble_eq_true rfl⟩) ⟨En.blind, va_recv hK hP (ci := 12) (q0 := 0) rfl rfl, fun U hU hW => ⟨rfl, En.of hU hW hP hK hD0 hN⟩⟩ rfl rfl hl.1 rfl (lv_room (Nat.le_of_ble_eq_true rfl)) dX12_deaf_72 ⟨Nat.le_of_ble_eq_true rfl, Nat.le_of_ble_eq_true rfl⟩) hS (fun q _ h => hFc q h) hFc (fun r_u_24 u_24 t9 H locs ht9 hvm hw hB hz1 hk1 hS => ?_)
              have hP := fr_keep hP hk1
              have wu_24 := hw
              clear hFc hk1 hz1 hB hw
              refine lv_istore (lv' := [(6, .int r_u_24), (5, .int x5_12), (4, .int x4_12), (0, .ref mo), (1, .int n), (2, .int n2), (3, .int n3)]) hx hb dX12_deaf_75 hl (by decide) rfl (fun ls hl => ?_)
              refine lv_iload hx hb dX12_deaf_77 (lv_at hl 2 rfl) ?_
              refine lv_if_lt (tgt := 89) hx hb dX12_deaf_79 (by decide) (fun c_25 => ?_) (fun c_25 => ?_)
              · have q_26 : x4_12.toInt < (0 : Int32).toInt := (ow_lt _ _).mp c_25
                refine lv_iload hx hb dX12_deaf_89 (lv_at hl 0 rfl) ?_
                refine lv_goto (tgt := 96) hx hb dX12_deaf_91 (by decide) ?_
                refine lv_istore (lv' := [(4, .int r_u_24), (6, .int r_u_24), (5, .int x5_12), (0, .ref mo), (1, .int n), (2, .int n2), (3, .int n3)]) hx hb dX12_deaf_96 hl (by decide) rfl (fun ls hl => ?_)
                obtain ⟨v_27, ev_27⟩ : ∃ y : Int32, y = x5_12 + 1 := ⟨_, rfl⟩
                refine lv_iinc (v := v_27) (lv' := [(5, .int v_27), (4, .int r_u_24), (6, .int r_u_24), (0, .ref mo), (1, .int n), (2, .int n2), (3, .int n3)]) hx hb dX12_deaf_98 hl (k := 2) rfl (by rw [ev_27]; rfl) (by decide) rfl (fun ls hl => ?_)
                have q_28 : v_27.toInt = x5_12.toInt + 1 := by have := ow_add ev_27 (by omega) (by omega); omega
                refine lv_goto (tgt := 34) hx hb dX12_deaf_101 (by decide) ?_
                refine W.widen (k := 0) (n := 0) (Nat.le_of_ble_eq_true rfl) (Nat.le_of_ble_eq_true rfl) ?_
                exact ih_12 v_27 r_u_24 _ _ _ (by omega) (by omega) hP hS (lv_sub hl [0, 1, 3, 4, 5, 6] rfl)
              · have q_29 : (0 : Int32).toInt ≤ x4_12.toInt := by have := (not_congr (ow_lt _ _)).mp c_25; omega
                refine lv_iload hx hb dX12_deaf_82 (lv_at hl 0 rfl) ?_
                refine lv_iload hx hb dX12_deaf_84 (lv_at hl 2 rfl) ?_
                refine lv_icmp_ge (tgt := 94) hx hb dX12_deaf_86 (by decide) (fun c_30 => ?_) (fun c_30 => ?_)
                · have q_31 : x4_12.toInt ≤ r_u_24.toInt := (ow_le _ _).mp c_30
                  refine lv_iload hx hb dX12_deaf_94 (lv_at hl 2 rfl) ?_
                  refine lv_istore (lv' := [(4, .int x4_12), (6, .int r_u_24), (5, .int x5_12), (0, .ref mo), (1, .int n), (2, .int n2), (3, .int n3)]) hx hb dX12_deaf_96 hl (by decide) rfl (fun ls hl => ?_)
                  obtain ⟨v_32, ev_32⟩ : ∃ y : Int32, y = x5_12 + 1 := ⟨_, rfl⟩
                  refine lv_iinc (v := v_32) (lv' := [(5, .int v_32), (4, .int x4_12), (6, .int r_u_24), (0, .ref mo), (1, .int n), (2, .int n2), (3, .int n3)]) hx hb dX12_deaf_98 hl (k := 2) rfl (by rw [ev_32]; rfl) (by decide) rfl (fun ls hl => ?_)
                  have q_33 : v_32.toInt = x5_12.toInt + 1 := by have := ow_add ev_32 (by omega) (by omega); omega
                  refine lv_goto (tgt := 34) hx hb dX12_deaf_101 (by decide) ?_
                  refine W.widen (k := 0) (n := 0) (Nat.le_of_ble_eq_true rfl) (Nat.le_of_ble_eq_true rfl) ?_
                  exact ih_12 v_32 x4_12 _ _ _ (by omega) (by omega) hP hS (lv_sub hl [0, 1, 3, 4, 5, 6] rfl)
                · have q_34 : r_u_24.toInt < x4_12.toInt := by have := (not_congr (ow_le _ _)).mp c_30; omega
                  refine lv_iload hx hb dX12_deaf_89 (lv_at hl 0 rfl) ?_
                  refine lv_goto (tgt := 96) hx hb dX12_deaf_91 (by decide) ?_
                  refine lv_istore (lv' := [(4, .int r_u_24), (6, .int r_u_24), (5, .int x5_12), (0, .ref mo), (1, .int n), (2, .int n2), (3, .int n3)]) hx hb dX12_deaf_96 hl (by decide) rfl (fun ls hl => ?_)
                  obtain ⟨v_35, ev_35⟩ : ∃ y : Int32, y = x5_12 + 1 := ⟨_, rfl⟩
                  refine lv_iinc (v := v_35) (lv' := [(5, .int v_35), (4, .int r_u_24), (6, .int r_u_24), (0, .ref mo), (1, .int n), (2, .int n2), (3, .int n3)]) hx hb dX12_deaf_98 hl (k := 2) rfl (by rw [ev_35]; rfl) (by decide) rfl (fun ls hl => ?_)
                  have q_36 : v_35.toInt = x5_12.toInt + 1 := by have := ow_add ev_35 (by omega) (by omega); omega
                  refine lv_goto (tgt := 34) hx hb dX12_deaf_101 (by decide) ?_
                  refine W.widen (k := 0) (n := 0) (Nat.le_of_ble_eq_true rfl) (Nat.le_of_ble_eq_true rfl) ?_
                  exact ih_12 v_35 r_u_24 _ _ _ (by omega) (by omega) hP hS (lv_sub hl [0, 1, 3, 4, 5, 6] rfl)
        exact lp_12 _ (0) ((-1)) _ _ _ (by omega) (Nat.lt_succ_self _) hP hS (lv_sub hl [0, 1, 2, 3, 4, 5] rfl)
      · have q_37 : r_u_9.toInt = (0 : Int32).toInt := (ow_eq _ _).mp c_10
        refine lv_iconst (v := (-1)) hx hb dX12_deaf_26 (by decide) ?_
        refine W.widen (k := 0) (n := 0) (Nat.le_of_ble_eq_true rfl) (Nat.le_of_ble_eq_true rfl) ?_
        exact W.iret (v := (-1)) hx hb hr (fun t ht9 hW => ⟨⟨(-1), (), rfl, trivial, trivial⟩, hS.F ht9⟩) hS.2.2 dX12_deaf_27
set_option maxHeartbeats 4000000 in
set_option maxRecDepth 100000 in
theorem m_heard (l : Launch) (G : va_G) (cy : Nat → ClassId) (sz : Nat) (mo : Nat) (h : Nat → Nat) (T : Int) (v : Nat → Int32) (nm : Int64) (f : Nat → Nat → Int32) (g : Nat → Nat → Int64) (n : Int32) (n2 : Int32)  (hv : MIv T v) (hf : MIf f) (hR : RI v f) (hL : WL v f)  : Met l yX12_heard (.code yX12_heard cX12_heard 3 (some .int) :: TBg) ({ frames := 5, cells := 0, slots := 0, locals := 320 }) (va_Pc [.ref mo, .int n, .int n2] (En G cy (WMs cy mo h v nm f g) sz)) (va_Qi (fun (r : Int32) (_ : Unit) => True) (fun _ _ => True) (va_A [] sz)) 0 0 (va_A [] sz) := by
  refine Met.ofW (cc := cX12_heard) (maxL := 3) (ret := (some .int)) (by decide) rfl ?_
  intro p e s m args below meth c s₁ B hml hv9
  obtain ⟨rfl, hsz, hP, hK, hD0, hN⟩ := hv9
  have hx := B.exec
  have hb := B.bytes
  have hr := B.returns
  have hts := atoms_spec (ws := .code yX12_heard cX12_heard 3 (some .int) :: TBg) B.pre
  have ht : ∀ w ∈ TBg, w.before _ s = true := fun w h => hts w (List.mem_cons_of_mem _ h)
  have hown : s.vm.findClass RX12 = some m.cls := findClass_of_methodNamed B.named
  have hlocks := B.notSynchronized
  subst hsz
  generalize hAe : va_A [] s.heap.size = A at ⊢
  have hA : ∀ q : Nat, s.heap.size ≤ q → A q := fun q h => by rw [← hAe]; exact Or.inr h
  have hS : va_S A s.heap s.heap [] := va_S.rf
  have hl := lv_entry ([.ref mo, .int n, .int n2]) (n := 3) (Nat.le_of_ble_eq_true rfl)
  rw [lg_entry_eq]
  generalize (lg_sl ([.ref mo, .int n, .int n2]) ++ List.replicate (3 - (lg_sl ([.ref mo, .int n, .int n2])).length) Slot.unset).toArray = ls at hl ⊢
  have hl : lv_has ls 3 [(0, .ref mo), (1, .int n), (2, .int n2)] := hl
  have z0 : (-1 : Int32).toInt = -1 := by decide
  have z1 : (0 : Int32).toInt = 0 := by decide
  have z2 : (28 : Int32).toInt = 28 := by decide
  refine lv_aload_n hx hb dX12_heard_0 rfl (lv_at hl 0 rfl) ?_
  refine lv_iload_n hx hb dX12_heard_1 rfl (lv_at hl 1 rfl) ?_
  have hFc := fr_new hS hA
  refine va_calli (va_runV (As := [.int n]) (rest := []) ⟨hx, hb, hml, hown, ht⟩ (m_isTune l G cy _ mo h T v nm f g n  hv hf hR hL) (cwV 1 ht (gv k_90 k_91 k_92 k_61 k_89) rfl rfl rfl (by decide +kernel) ⟨Nat.le_of_ble_eq_true rfl, Nat.le_of_ble_eq_true rfl⟩) ⟨En.blind, va_recv hK hP (ci := 12) (q0 := 0) rfl rfl, fun U hU hW => ⟨rfl, En.of hU hW hP hK hD0 hN⟩⟩ rfl rfl hl.1 rfl (lv_room (Nat.le_of_ble_eq_true rfl)) dX12_heard_2 ⟨Nat.le_of_ble_eq_true rfl, Nat.le_of_ble_eq_true rfl⟩) hS (fun q _ h => hFc q h) hFc (fun r_u_1 u_1 t9 H locs ht9 hvm hw hB hz1 hk1 hS => ?_)
  have hP := fr_keep hP hk1
  have wu_1 := hw
  clear hFc hk1 hz1 hB hw
  refine lv_if_eq (tgt := 23) hx hb dX12_heard_5 (by decide) (fun c_2 => ?_) (fun c_2 => ?_)
  · have q_3 : r_u_1.toInt = (0 : Int32).toInt := (ow_eq _ _).mp c_2
    refine lv_iconst (v := (-1)) hx hb dX12_heard_23 (by decide) ?_
    refine W.widen (k := 0) (n := 0) (Nat.le_of_ble_eq_true rfl) (Nat.le_of_ble_eq_true rfl) ?_
    exact W.iret (v := (-1)) hx hb hr (fun t ht9 hW => ⟨⟨(-1), (), rfl, trivial, trivial⟩, hS.F ht9⟩) hS.2.2 dX12_heard_24
  · have q_4 : ¬ r_u_1.toInt = (0 : Int32).toInt := by have := (not_congr (ow_eq _ _)).mp c_2; omega
    refine lv_aload_n hx hb dX12_heard_8 rfl (lv_at hl 0 rfl) ?_
    refine lv_aload_n hx hb dX12_heard_9 rfl (lv_at hl 0 rfl) ?_
    refine lv_iload_n hx hb dX12_heard_10 rfl (lv_at hl 1 rfl) ?_
    have hFc := fr_new hS hA
    refine va_calli (va_runV (As := [.int n]) (rest := [.ref mo]) ⟨hx, hb, hml, hown, ht⟩ (m_songOf l G cy _ mo h T v nm f g n  hv hf hR hL (by omega)) (cwV 1 ht (gv k_94 k_95 k_96 k_61 k_93) rfl rfl rfl (by decide +kernel) ⟨Nat.le_of_ble_eq_true rfl, Nat.le_of_ble_eq_true rfl⟩) ⟨En.blind, va_recv hK hP (ci := 12) (q0 := 0) rfl rfl, fun U hU hW => ⟨rfl, En.of hU hW hP hK hD0 hN⟩⟩ rfl rfl hl.1 rfl (lv_room (Nat.le_of_ble_eq_true rfl)) dX12_heard_11 ⟨Nat.le_of_ble_eq_true rfl, Nat.le_of_ble_eq_true rfl⟩) hS (fun q _ h => hFc q h) hFc (fun r_u_5 u_5 t9 H locs ht9 hvm hw hB hz1 hk1 hS => ?_)
    have hP := fr_keep hP hk1
    have wu_5 := hw
    clear hFc hk1 hz1 hB hw
    refine lv_bipush (v := 28) hx hb dX12_heard_14 (by decide) ?_
    refine lv_iload_n hx hb dX12_heard_16 rfl (lv_at hl 2 rfl) ?_
    have hFc := fr_new hS hA
    refine va_calli (va_runV (As := [.int r_u_5, .int 28, .int n2]) (rest := []) ⟨hx, hb, hml, hown, ht⟩ (m_inWhat l G cy _ mo h T v nm f g r_u_5 (28) n2  hv hf hR hL (by omega) (by omega)) (cwV 3 ht (gv k_99 k_100 k_101 k_61 k_98) rfl rfl rfl (by decide +kernel) ⟨Nat.le_of_ble_eq_true rfl, Nat.le_of_ble_eq_true rfl⟩) ⟨En.blind, va_recv hK hP (ci := 12) (q0 := 0) rfl rfl, fun U hU hW => ⟨rfl, En.of hU hW hP hK hD0 hN⟩⟩ rfl rfl hl.1 rfl (lv_room (Nat.le_of_ble_eq_true rfl)) dX12_heard_17 ⟨Nat.le_of_ble_eq_true rfl, Nat.le_of_ble_eq_true rfl⟩) hS (fun q _ h => hFc q h) hFc (fun r_u_6 u_6 t9 H locs ht9 hvm hw hB hz1 hk1 hS => ?_)
    have hP := fr_keep hP hk1
    have wu_6 := hw
    clear hFc hk1 hz1 hB hw
    refine lv_goto (tgt := 24) hx hb dX12_heard_20 (by decide) ?_
    refine W.widen (k := 0) (n := 0) (Nat.le_of_ble_eq_true rfl) (Nat.le_of_ble_eq_true rfl) ?_
    exact W.iret (v := r_u_6) hx hb hr (fun t ht9 hW => ⟨⟨r_u_6, (), rfl, trivial, trivial⟩, hS.F ht9⟩) hS.2.2 dX12_heard_24
set_option maxHeartbeats 4000000 in
set_option maxRecDepth 100000 in
theorem m_lock (l : Launch) (G : va_G) (cy : Nat → ClassId) (sz : Nat) (mo : Nat) (h : Nat → Nat) (T : Int) (v : Nat → Int32) (nm : Int64) (f : Nat → Nat → Int32) (g : Nat → Nat → Int64) (n : Int32) (n2 : Int32)  (hv : MIv T v) (hf : MIf f) (hR : RI v f) (hL : WL v f)  : Met l yX12_lock (.code yX12_lock cX12_lock 3 (some .int) :: TBg) ({ frames := 3, cells := 0, slots := 0, locals := 192 }) (va_Pc [.ref mo, .int n, .int n2] (En G cy (WMs cy mo h v nm f g) sz)) (va_Qi (fun (r : Int32) (_ : Unit) => True) (fun _ _ => True) (va_A [] sz)) 0 0 (va_A [] sz) := by
  refine Met.ofW (cc := cX12_lock) (maxL := 3) (ret := (some .int)) (by decide) rfl ?_
  intro p e s m args below meth c s₁ B hml hv9
  obtain ⟨rfl, hsz, hP, hK, hD0, hN⟩ := hv9
  have hx := B.exec
  have hb := B.bytes
  have hr := B.returns
  have hts := atoms_spec (ws := .code yX12_lock cX12_lock 3 (some .int) :: TBg) B.pre
  have ht : ∀ w ∈ TBg, w.before _ s = true := fun w h => hts w (List.mem_cons_of_mem _ h)
  have hown : s.vm.findClass RX12 = some m.cls := findClass_of_methodNamed B.named
  have hlocks := B.notSynchronized
  subst hsz
  generalize hAe : va_A [] s.heap.size = A at ⊢
  have hA : ∀ q : Nat, s.heap.size ≤ q → A q := fun q h => by rw [← hAe]; exact Or.inr h
  have hS : va_S A s.heap s.heap [] := va_S.rf
  have hl := lv_entry ([.ref mo, .int n, .int n2]) (n := 3) (Nat.le_of_ble_eq_true rfl)
  rw [lg_entry_eq]
  generalize (lg_sl ([.ref mo, .int n, .int n2]) ++ List.replicate (3 - (lg_sl ([.ref mo, .int n, .int n2])).length) Slot.unset).toArray = ls at hl ⊢
  have hl : lv_has ls 3 [(0, .ref mo), (1, .int n), (2, .int n2)] := hl
  have z0 : (-1 : Int32).toInt = -1 := by decide
  have z1 : (0 : Int32).toInt = 0 := by decide
  have z2 : (1 : Int32).toInt = 1 := by decide
  have z3 : (2 : Int32).toInt = 2 := by decide
  refine lv_aload_n hx hb dX12_lock_0 rfl (lv_at hl 0 rfl) ?_
  refine lv_iload_n hx hb dX12_lock_1 rfl (lv_at hl 1 rfl) ?_
  have hFc := fr_new hS hA
  refine va_calli (va_runV (As := [.int n]) (rest := []) ⟨hx, hb, hml, hown, ht⟩ (m_isLock l G cy _ mo h T v nm f g n  hv hf hR hL) (cwV 1 ht (gv k_118 k_119 k_120 k_61 k_117) rfl rfl rfl (by decide +kernel) ⟨Nat.le_of_ble_eq_true rfl, Nat.le_of_ble_eq_true rfl⟩) ⟨En.blind, va_recv hK hP (ci := 12) (q0 := 0) rfl rfl, fun U hU hW => ⟨rfl, En.of hU hW hP hK hD0 hN⟩⟩ rfl rfl hl.1 rfl (lv_room (Nat.le_of_ble_eq_true rfl)) dX12_lock_2 ⟨Nat.le_of_ble_eq_true rfl, Nat.le_of_ble_eq_true rfl⟩) hS (fun q _ h => hFc q h) hFc (fun r_u_1 u_1 t9 H locs ht9 hvm hw hB hz1 hk1 hS => ?_)
  have hP := fr_keep hP hk1
  have wu_1 := hw
  clear hFc hk1 hz1 hB hw
  refine lv_if_ne (tgt := 10) hx hb dX12_lock_5 (by decide) (fun c_2 => ?_) (fun c_2 => ?_)
  · have q_3 : ¬ r_u_1.toInt = (0 : Int32).toInt := by have := (not_congr (ow_eq _ _)).mp c_2; omega
    refine lv_iload_n hx hb dX12_lock_10 rfl (lv_at hl 2 rfl) ?_
    refine lv_if_ne (tgt := 31) hx hb dX12_lock_11 (by decide) (fun c_4 => ?_) (fun c_4 => ?_)
    · have q_5 : ¬ n2.toInt = (0 : Int32).toInt := by have := (not_congr (ow_eq _ _)).mp c_4; omega
      refine lv_iload_n hx hb dX12_lock_31 rfl (lv_at hl 2 rfl) ?_
      refine lv_iconst (v := 1) hx hb dX12_lock_32 (by decide) ?_
      refine lv_icmp_ne (tgt := 45) hx hb dX12_lock_33 (by decide) (fun c_6 => ?_) (fun c_6 => ?_)
      · have q_7 : ¬ n2.toInt = (1 : Int32).toInt := by have := (not_congr (ow_eq _ _)).mp c_6; omega
        refine lv_iload_n hx hb dX12_lock_45 rfl (lv_at hl 2 rfl) ?_
        refine lv_iconst (v := 2) hx hb dX12_lock_46 (by decide) ?_
        refine lv_icmp_ne (tgt := 64) hx hb dX12_lock_47 (by decide) (fun c_8 => ?_) (fun c_8 => ?_)
        · have q_9 : ¬ n2.toInt = (2 : Int32).toInt := by have := (not_congr (ow_eq _ _)).mp c_8; omega
          refine lv_iconst (v := (-1)) hx hb dX12_lock_64 (by decide) ?_
          refine W.widen (k := 0) (n := 0) (Nat.le_of_ble_eq_true rfl) (Nat.le_of_ble_eq_true rfl) ?_
          exact W.iret (v := (-1)) hx hb hr (fun t ht9 hW => ⟨⟨(-1), (), rfl, trivial, trivial⟩, hS.F ht9⟩) hS.2.2 dX12_lock_65
        · have q_10 : n2.toInt = (2 : Int32).toInt := (ow_eq _ _).mp c_8
          refine lv_aload_n hx hb dX12_lock_50 rfl (lv_at hl 0 rfl) ?_
          refine lv_iload_n hx hb dX12_lock_51 rfl (lv_at hl 1 rfl) ?_
          refine lv_aload_n hx hb dX12_lock_52 rfl (lv_at hl 0 rfl) ?_
          refine mg_36 hx hb ht hown hK hP dX12_lock_53 ?_
          refine lv_iload_n hx hb dX12_lock_56 rfl (lv_at hl 1 rfl) ?_
          have q_11 : vp_in n 8 := vp_in_iff.mpr ⟨by omega, by omega⟩
          refine ml_36 hx hb hK hP q_11 dX12_lock_57 ?_
          refine lv_topi (fun v_12 ev_12 => ?_)
          have hFc := fr_new hS hA
          refine va_calli (va_runV (As := [.int n, .int v_12]) (rest := []) ⟨hx, hb, hml, hown, ht⟩ (m_nearBy l G cy _ mo h T v nm f g n v_12  hv hf hR hL (by omega)) (cwV 2 ht (gv k_122 k_123 k_124 k_61 k_121) rfl rfl rfl (by decide +kernel) ⟨Nat.le_of_ble_eq_true rfl, Nat.le_of_ble_eq_true rfl⟩) ⟨En.blind, va_recv hK hP (ci := 12) (q0 := 0) rfl rfl, fun U hU hW => ⟨rfl, En.of hU hW hP hK hD0 hN⟩⟩ rfl rfl hl.1 rfl (lv_room (Nat.le_of_ble_eq_true rfl)) dX12_lock_58 ⟨Nat.le_of_ble_eq_true rfl, Nat.le_of_ble_eq_true rfl⟩) hS (fun q _ h => hFc q h) hFc (fun r_u_13 u_13 t9 H locs ht9 hvm hw hB hz1 hk1 hS => ?_)
          have hP := fr_keep hP hk1
          have wu_13 := hw
          clear hFc hk1 hz1 hB hw
          refine lv_goto (tgt := 65) hx hb dX12_lock_61 (by decide) ?_
          refine W.widen (k := 0) (n := 0) (Nat.le_of_ble_eq_true rfl) (Nat.le_of_ble_eq_true rfl) ?_
          exact W.iret (v := r_u_13) hx hb hr (fun t ht9 hW => ⟨⟨r_u_13, (), rfl, trivial, trivial⟩, hS.F ht9⟩) hS.2.2 dX12_lock_65
      · have q_14 : n2.toInt = (1 : Int32).toInt := (ow_eq _ _).mp c_6
        refine lv_aload_n hx hb dX12_lock_36 rfl (lv_at hl 0 rfl) ?_
        refine mg_36 hx hb ht hown hK hP dX12_lock_37 ?_
        refine lv_iload_n hx hb dX12_lock_40 rfl (lv_at hl 1 rfl) ?_
        have q_15 : vp_in n 8 := vp_in_iff.mpr ⟨by omega, by omega⟩
        refine ml_36 hx hb hK hP q_15 dX12_lock_41 ?_
        refine lv_topi (fun v_16 ev_16 => ?_)
        refine lv_goto (tgt := 65) hx hb dX12_lock_42 (by decide) ?_
        refine W.widen (k := 0) (n := 0) (Nat.le_of_ble_eq_true rfl) (Nat.le_of_ble_eq_true rfl) ?_
        exact W.iret (v := v_16) hx hb hr (fun t ht9 hW => ⟨⟨v_16, (), rfl, trivial, trivial⟩, hS.F ht9⟩) hS.2.2 dX12_lock_65
    · have q_17 : n2.toInt = (0 : Int32).toInt := (ow_eq _ _).mp c_4
      refine lv_aload_n hx hb dX12_lock_14 rfl (lv_at hl 0 rfl) ?_
      refine mg_35 hx hb ht hown hK hP dX12_lock_15 ?_
      refine lv_iload_n hx hb dX12_lock_18 rfl (lv_at hl 1 rfl) ?_
      have q_18 : vp_in n 8 := vp_in_iff.mpr ⟨by omega, by omega⟩
      refine ml_35 hx hb hK hP q_18 dX12_lock_19 ?_
      refine lv_topi (fun v_19 ev_19 => ?_)
      have q_20 : 0 ≤ v_19.toInt ∧ v_19.toInt ≤ 1 := by rw [ev_19]; exact MIf.rd 35 hf q_18
      refine lv_if_eq (tgt := 27) hx hb dX12_lock_20 (by decide) (fun c_21 => ?_) (fun c_21 => ?_)
      · have q_22 : v_19.toInt = (0 : Int32).toInt := (ow_eq _ _).mp c_21
        refine lv_iconst (v := 0) hx hb dX12_lock_27 (by decide) ?_
        refine lv_goto (tgt := 65) hx hb dX12_lock_28 (by decide) ?_
        refine W.widen (k := 0) (n := 0) (Nat.le_of_ble_eq_true rfl) (Nat.le_of_ble_eq_true rfl) ?_
        exact W.iret (v := 0) hx hb hr (fun t ht9 hW => ⟨⟨0, (), rfl, trivial, trivial⟩, hS.F ht9⟩) hS.2.2 dX12_lock_65
      · have q_23 : ¬ v_19.toInt = (0 : Int32).toInt := by have := (not_congr (ow_eq _ _)).mp c_21; omega
        refine lv_iconst (v := 1) hx hb dX12_lock_23 (by decide) ?_
        refine lv_goto (tgt := 65) hx hb dX12_lock_24 (by decide) ?_
        refine W.widen (k := 0) (n := 0) (Nat.le_of_ble_eq_true rfl) (Nat.le_of_ble_eq_true rfl) ?_
        exact W.iret (v := 1) hx hb hr (fun t ht9 hW => ⟨⟨1, (), rfl, trivial, trivial⟩, hS.F ht9⟩) hS.2.2 dX12_lock_65
  · have q_24 : r_u_1.toInt = (0 : Int32).toInt := (ow_eq _ _).mp c_2
    refine lv_iconst (v := (-1)) hx hb dX12_lock_8 (by decide) ?_
    refine W.widen (k := 0) (n := 0) (Nat.le_of_ble_eq_true rfl) (Nat.le_of_ble_eq_true rfl) ?_
    exact W.iret (v := (-1)) hx hb hr (fun t ht9 hW => ⟨⟨(-1), (), rfl, trivial, trivial⟩, hS.F ht9⟩) hS.2.2 dX12_lock_9
set_option maxHeartbeats 4000000 in
set_option maxRecDepth 100000 in
theorem m_fault (l : Launch) (G : va_G) (cy : Nat → ClassId) (sz : Nat) (mo : Nat) (h : Nat → Nat) (T : Int) (v : Nat → Int32) (nm : Int64) (f : Nat → Nat → Int32) (g : Nat → Nat → Int64) (n : Int32)  (hv : MIv T v) (hf : MIf f) (hR : RI v f) (hL : WL v f)  : Met l yX12_fault (.code yX12_fault cX12_fault 2 (some .int) :: TBg) ({ frames := 1, cells := 0, slots := 0, locals := 64 }) (va_Pc [.ref mo, .int n] (En G cy (WMs cy mo h v nm f g) sz)) (va_Qi (fun (r : Int32) (_ : Unit) => True) (fun _ _ => True) (va_A [] sz)) 0 0 (va_A [] sz) := by
  refine Met.ofW (cc := cX12_fault) (maxL := 2) (ret := (some .int)) (by decide) rfl ?_
  intro p e s m args below meth c s₁ B hml hv9
  obtain ⟨rfl, hsz, hP, hK, hD0, hN⟩ := hv9
  have hx := B.exec
  have hb := B.bytes
  have hr := B.returns
  have hts := atoms_spec (ws := .code yX12_fault cX12_fault 2 (some .int) :: TBg) B.pre
  have ht : ∀ w ∈ TBg, w.before _ s = true := fun w h => hts w (List.mem_cons_of_mem _ h)
  have hown : s.vm.findClass RX12 = some m.cls := findClass_of_methodNamed B.named
  have hlocks := B.notSynchronized
  subst hsz
  generalize hAe : va_A [] s.heap.size = A at ⊢
  have hA : ∀ q : Nat, s.heap.size ≤ q → A q := fun q h => by rw [← hAe]; exact Or.inr h
  have hS : va_S A s.heap s.heap [] := va_S.rf
  have hl := lv_entry ([.ref mo, .int n]) (n := 2) (Nat.le_of_ble_eq_true rfl)
  rw [lg_entry_eq]
  generalize (lg_sl ([.ref mo, .int n]) ++ List.replicate (2 - (lg_sl ([.ref mo, .int n])).length) Slot.unset).toArray = ls at hl ⊢
  have hl : lv_has ls 2 [(0, .ref mo), (1, .int n)] := hl
  have z0 : (-1 : Int32).toInt = -1 := by decide
  have z1 : (0 : Int32).toInt = 0 := by decide
  have z2 : (1 : Int32).toInt = 1 := by decide
  refine lv_iload_n hx hb dX12_fault_0 rfl (lv_at hl 1 rfl) ?_
  refine lv_if_ne (tgt := 11) hx hb dX12_fault_1 (by decide) (fun c_1 => ?_) (fun c_1 => ?_)
  · have q_2 : ¬ n.toInt = (0 : Int32).toInt := by have := (not_congr (ow_eq _ _)).mp c_1; omega
    refine lv_iload_n hx hb dX12_fault_11 rfl (lv_at hl 1 rfl) ?_
    refine lv_iconst (v := 1) hx hb dX12_fault_12 (by decide) ?_
    refine lv_icmp_ne (tgt := 23) hx hb dX12_fault_13 (by decide) (fun c_3 => ?_) (fun c_3 => ?_)
    · have q_4 : ¬ n.toInt = (1 : Int32).toInt := by have := (not_congr (ow_eq _ _)).mp c_3; omega
      refine lv_iconst (v := (-1)) hx hb dX12_fault_23 (by decide) ?_
      refine W.widen (k := 0) (n := 0) (Nat.le_of_ble_eq_true rfl) (Nat.le_of_ble_eq_true rfl) ?_
      exact W.iret (v := (-1)) hx hb hr (fun t ht9 hW => ⟨⟨(-1), (), rfl, trivial, trivial⟩, hS.F ht9⟩) hS.2.2 dX12_fault_24
    · have q_5 : n.toInt = (1 : Int32).toInt := (ow_eq _ _).mp c_3
      refine lv_aload_n hx hb dX12_fault_16 rfl (lv_at hl 0 rfl) ?_
      refine mg_5 hx hb ht hown hK hP dX12_fault_17 ?_
      refine lv_goto (tgt := 24) hx hb dX12_fault_20 (by decide) ?_
      refine W.widen (k := 0) (n := 0) (Nat.le_of_ble_eq_true rfl) (Nat.le_of_ble_eq_true rfl) ?_
      exact W.iret (v := (v 5)) hx hb hr (fun t ht9 hW => ⟨⟨(v 5), (), rfl, trivial, trivial⟩, hS.F ht9⟩) hS.2.2 dX12_fault_24
  · have q_6 : n.toInt = (0 : Int32).toInt := (ow_eq _ _).mp c_1
    refine lv_aload_n hx hb dX12_fault_4 rfl (lv_at hl 0 rfl) ?_
    refine mg_4 hx hb ht hown hK hP dX12_fault_5 ?_
    have q_7 : 0 ≤ (v 4).toInt ∧ (v 4).toInt ≤ 5 := hv 4
    refine lv_goto (tgt := 24) hx hb dX12_fault_8 (by decide) ?_
    refine W.widen (k := 0) (n := 0) (Nat.le_of_ble_eq_true rfl) (Nat.le_of_ble_eq_true rfl) ?_
    exact W.iret (v := (v 4)) hx hb hr (fun t ht9 hW => ⟨⟨(v 4), (), rfl, trivial, trivial⟩, hS.F ht9⟩) hS.2.2 dX12_fault_24
set_option maxHeartbeats 4000000 in
set_option maxRecDepth 100000 in
theorem m_about (l : Launch) (G : va_G) (cy : Nat → ClassId) (sz : Nat) (mo : Nat) (h : Nat → Nat) (T : Int) (v : Nat → Int32) (nm : Int64) (f : Nat → Nat → Int32) (g : Nat → Nat → Int64) (n : Int32)  (hv : MIv T v) (hf : MIf f) (hR : RI v f) (hL : WL v f)  : Met l yX12_about (.code yX12_about cX12_about 2 (some .int) :: TBg) ({ frames := 1, cells := 0, slots := 0, locals := 64 }) (va_Pc [.ref mo, .int n] (En G cy (WMs cy mo h v nm f g) sz)) (va_Qi (fun (r : Int32) (_ : Unit) => True) (fun _ _ => True) (va_A [] sz)) 0 0 (va_A [] sz) := by
  refine Met.ofW (cc := cX12_about) (maxL := 2) (ret := (some .int)) (by decide) rfl ?_
  intro p e s m args below meth c s₁ B hml hv9
  obtain ⟨rfl, hsz, hP, hK, hD0, hN⟩ := hv9
  have hx := B.exec
  have hb := B.bytes
  have hr := B.returns
  have hts := atoms_spec (ws := .code yX12_about cX12_about 2 (some .int) :: TBg) B.pre
  have ht : ∀ w ∈ TBg, w.before _ s = true := fun w h => hts w (List.mem_cons_of_mem _ h)
  have hown : s.vm.findClass RX12 = some m.cls := findClass_of_methodNamed B.named
  have hlocks := B.notSynchronized
  subst hsz
  generalize hAe : va_A [] s.heap.size = A at ⊢
  have hA : ∀ q : Nat, s.heap.size ≤ q → A q := fun q h => by rw [← hAe]; exact Or.inr h
  have hS : va_S A s.heap s.heap [] := va_S.rf
  have hl := lv_entry ([.ref mo, .int n]) (n := 2) (Nat.le_of_ble_eq_true rfl)
  rw [lg_entry_eq]
  generalize (lg_sl ([.ref mo, .int n]) ++ List.replicate (2 - (lg_sl ([.ref mo, .int n])).length) Slot.unset).toArray = ls at hl ⊢
  have hl : lv_has ls 2 [(0, .ref mo), (1, .int n)] := hl
  have z0 : (-1 : Int32).toInt = -1 := by decide
  have z1 : (0 : Int32).toInt = 0 := by decide
  have z2 : (1 : Int32).toInt = 1 := by decide
  refine lv_iload_n hx hb dX12_about_0 rfl (lv_at hl 1 rfl) ?_
  rcases ow_cut n 8 (by decide) with ⟨j, hj, hj2⟩ | hout
  · have hj3 : j = 0 ∨ j = 1 ∨ j = 2 ∨ j = 3 ∨ j = 4 ∨ j = 5 ∨ j = 6 ∨ j = 7 := by omega
    rcases hj3 with rfl | rfl | rfl | rfl | rfl | rfl | rfl | rfl
    · refine ow_top 0 hj2 ?_
      refine lv_tableIn (tgt := 48) hx hb dX12_about_1 (by decide +kernel) (by decide +kernel) rfl (by decide) ?_
      refine lv_aload_n hx hb dX12_about_48 rfl (lv_at hl 0 rfl) ?_
      refine mg_11 hx hb ht hown hK hP dX12_about_49 ?_
      refine lv_aload_n hx hb dX12_about_52 rfl (lv_at hl 0 rfl) ?_
      refine mg_29 hx hb ht hown hK hP dX12_about_53 ?_
      have q_1 : 0 ≤ (v 29).toInt ∧ (v 29).toInt ≤ 1 := hv 29
      have q_2 : vp_in (v 29) 2 := vp_in_iff.mpr ⟨by omega, by omega⟩
      refine ml_11 hx hb hK hP q_2 dX12_about_56 ?_
      refine lv_topi (fun v_3 ev_3 => ?_)
      have q_4 : 0 ≤ v_3.toInt ∧ v_3.toInt ≤ 14 := by rw [ev_3]; exact MIf.rd 11 hf q_2
      have q_5 : v_3.toInt = ((f 11) (Int32.toNatClampNeg (v 29))).toInt := (congrArg Int32.toInt ev_3).trans (congrArg (fun z : Nat → Int32 => (z (Int32.toNatClampNeg (v 29))).toInt) (show f 11 = (f 11) from rfl))
      refine W.widen (k := 0) (n := 0) (Nat.le_of_ble_eq_true rfl) (Nat.le_of_ble_eq_true rfl) ?_
      exact W.iret (v := v_3) hx hb hr (fun t ht9 hW => ⟨⟨v_3, (), rfl, trivial, trivial⟩, hS.F ht9⟩) hS.2.2 dX12_about_57
    · refine ow_top 1 hj2 ?_
      refine lv_tableIn (tgt := 58) hx hb dX12_about_1 (by decide +kernel) (by decide +kernel) rfl (by decide) ?_
      refine lv_aload_n hx hb dX12_about_58 rfl (lv_at hl 0 rfl) ?_
      refine mg_12 hx hb ht hown hK hP dX12_about_59 ?_
      refine lv_aload_n hx hb dX12_about_62 rfl (lv_at hl 0 rfl) ?_
      refine mg_29 hx hb ht hown hK hP dX12_about_63 ?_
      have q_6 : 0 ≤ (v 29).toInt ∧ (v 29).toInt ≤ 1 := hv 29
      have q_7 : vp_in (v 29) 2 := vp_in_iff.mpr ⟨by omega, by omega⟩
      refine ml_12 hx hb hK hP q_7 dX12_about_66 ?_
      refine lv_topi (fun v_8 ev_8 => ?_)
      have q_9 : 0 ≤ v_8.toInt ∧ v_8.toInt ≤ 8 := by rw [ev_8]; exact MIf.rd 12 hf q_7
      have q_10 : v_8.toInt = ((f 12) (Int32.toNatClampNeg (v 29))).toInt := (congrArg Int32.toInt ev_8).trans (congrArg (fun z : Nat → Int32 => (z (Int32.toNatClampNeg (v 29))).toInt) (show f 12 = (f 12) from rfl))
      refine W.widen (k := 0) (n := 0) (Nat.le_of_ble_eq_true rfl) (Nat.le_of_ble_eq_true rfl) ?_
      exact W.iret (v := v_8) hx hb hr (fun t ht9 hW => ⟨⟨v_8, (), rfl, trivial, trivial⟩, hS.F ht9⟩) hS.2.2 dX12_about_67
    · refine ow_top 2 hj2 ?_
      refine lv_tableIn (tgt := 68) hx hb dX12_about_1 (by decide +kernel) (by decide +kernel) rfl (by decide) ?_
      refine lv_aload_n hx hb dX12_about_68 rfl (lv_at hl 0 rfl) ?_
      refine mg_34 hx hb ht hown hK hP dX12_about_69 ?_
      have q_11 : 0 ≤ (v 34).toInt ∧ (v 34).toInt ≤ 40 := hv 34
      refine W.widen (k := 0) (n := 0) (Nat.le_of_ble_eq_true rfl) (Nat.le_of_ble_eq_true rfl) ?_
      exact W.iret (v := (v 34)) hx hb hr (fun t ht9 hW => ⟨⟨(v 34), (), rfl, trivial, trivial⟩, hS.F ht9⟩) hS.2.2 dX12_about_72
    · refine ow_top 3 hj2 ?_
      refine lv_tableIn (tgt := 73) hx hb dX12_about_1 (by decide +kernel) (by decide +kernel) rfl (by decide) ?_
      refine lv_aload_n hx hb dX12_about_73 rfl (lv_at hl 0 rfl) ?_
      refine mg_37 hx hb ht hown hK hP dX12_about_74 ?_
      have q_12 : 0 ≤ (v 37).toInt ∧ (v 37).toInt ≤ 1 := hv 37
      refine lv_if_eq (tgt := 84) hx hb dX12_about_77 (by decide) (fun c_13 => ?_) (fun c_13 => ?_)
      · have q_14 : (v 37).toInt = (0 : Int32).toInt := (ow_eq _ _).mp c_13
        refine lv_iconst (v := 0) hx hb dX12_about_84 (by decide) ?_
        refine W.widen (k := 0) (n := 0) (Nat.le_of_ble_eq_true rfl) (Nat.le_of_ble_eq_true rfl) ?_
        exact W.iret (v := 0) hx hb hr (fun t ht9 hW => ⟨⟨0, (), rfl, trivial, trivial⟩, hS.F ht9⟩) hS.2.2 dX12_about_85
      · have q_15 : ¬ (v 37).toInt = (0 : Int32).toInt := by have := (not_congr (ow_eq _ _)).mp c_13; omega
        refine lv_iconst (v := 1) hx hb dX12_about_80 (by decide) ?_
        refine lv_goto (tgt := 85) hx hb dX12_about_81 (by decide) ?_
        refine W.widen (k := 0) (n := 0) (Nat.le_of_ble_eq_true rfl) (Nat.le_of_ble_eq_true rfl) ?_
        exact W.iret (v := 1) hx hb hr (fun t ht9 hW => ⟨⟨1, (), rfl, trivial, trivial⟩, hS.F ht9⟩) hS.2.2 dX12_about_85
    · refine ow_top 4 hj2 ?_
      refine lv_tableIn (tgt := 86) hx hb dX12_about_1 (by decide +kernel) (by decide +kernel) rfl (by decide) ?_
      refine lv_aload_n hx hb dX12_about_86 rfl (lv_at hl 0 rfl) ?_
      refine mg_50 hx hb ht hown hK hP dX12_about_87 ?_
      have q_16 : 0 ≤ (v 50).toInt ∧ (v 50).toInt ≤ 30 := hv 50
      refine W.widen (k := 0) (n := 0) (Nat.le_of_ble_eq_true rfl) (Nat.le_of_ble_eq_true rfl) ?_
      exact W.iret (v := (v 50)) hx hb hr (fun t ht9 hW => ⟨⟨(v 50), (), rfl, trivial, trivial⟩, hS.F ht9⟩) hS.2.2 dX12_about_90
    · refine ow_top 5 hj2 ?_
      refine lv_tableIn (tgt := 91) hx hb dX12_about_1 (by decide +kernel) (by decide +kernel) rfl (by decide) ?_
      refine lv_aload_n hx hb dX12_about_91 rfl (lv_at hl 0 rfl) ?_
      refine mg_51 hx hb ht hown hK hP dX12_about_92 ?_
      have q_17 : T ≤ (v 51).toInt ∧ (v 51).toInt ≤ T := hv 51
      refine W.widen (k := 0) (n := 0) (Nat.le_of_ble_eq_true rfl) (Nat.le_of_ble_eq_true rfl) ?_
      exact W.iret (v := (v 51)) hx hb hr (fun t ht9 hW => ⟨⟨(v 51), (), rfl, trivial, trivial⟩, hS.F ht9⟩) hS.2.2 dX12_about_95
    · refine ow_top 6 hj2 ?_
      refine lv_tableIn (tgt := 96) hx hb dX12_about_1 (by decide +kernel) (by decide +kernel) rfl (by decide) ?_
      refine lv_aload_n hx hb dX12_about_96 rfl (lv_at hl 0 rfl) ?_
      refine mg_2 hx hb ht hown hK hP dX12_about_97 ?_
      have q_18 : 0 ≤ (v 2).toInt ∧ (v 2).toInt ≤ 1700 := hv 2
      refine W.widen (k := 0) (n := 0) (Nat.le_of_ble_eq_true rfl) (Nat.le_of_ble_eq_true rfl) ?_
      exact W.iret (v := (v 2)) hx hb hr (fun t ht9 hW => ⟨⟨(v 2), (), rfl, trivial, trivial⟩, hS.F ht9⟩) hS.2.2 dX12_about_100
    · refine ow_top 7 hj2 ?_
      refine lv_tableIn (tgt := 101) hx hb dX12_about_1 (by decide +kernel) (by decide +kernel) rfl (by decide) ?_
      refine lv_aload_n hx hb dX12_about_101 rfl (lv_at hl 0 rfl) ?_
      refine mg_13 hx hb ht hown hK hP dX12_about_102 ?_
      refine lv_aload_n hx hb dX12_about_105 rfl (lv_at hl 0 rfl) ?_
      refine mg_29 hx hb ht hown hK hP dX12_about_106 ?_
      have q_19 : 0 ≤ (v 29).toInt ∧ (v 29).toInt ≤ 1 := hv 29
      have q_20 : vp_in (v 29) 2 := vp_in_iff.mpr ⟨by omega, by omega⟩
      refine ml_13 hx hb hK hP q_20 dX12_about_109 ?_
      refine lv_topi (fun v_21 ev_21 => ?_)
      have q_22 : 0 ≤ v_21.toInt ∧ v_21.toInt ≤ 60 := by rw [ev_21]; exact MIf.rd 13 hf q_20
      have q_23 : v_21.toInt = ((f 13) (Int32.toNatClampNeg (v 29))).toInt := (congrArg Int32.toInt ev_21).trans (congrArg (fun z : Nat → Int32 => (z (Int32.toNatClampNeg (v 29))).toInt) (show f 13 = (f 13) from rfl))
      refine W.widen (k := 0) (n := 0) (Nat.le_of_ble_eq_true rfl) (Nat.le_of_ble_eq_true rfl) ?_
      exact W.iret (v := v_21) hx hb hr (fun t ht9 hW => ⟨⟨v_21, (), rfl, trivial, trivial⟩, hS.F ht9⟩) hS.2.2 dX12_about_110
  · refine lv_tableOut (tgt := 111) hx hb dX12_about_1 (by omega) (by decide) ?_
    refine lv_iconst (v := (-1)) hx hb dX12_about_111 (by decide) ?_
    refine W.widen (k := 0) (n := 0) (Nat.le_of_ble_eq_true rfl) (Nat.le_of_ble_eq_true rfl) ?_
    exact W.iret (v := (-1)) hx hb hr (fun t ht9 hW => ⟨⟨(-1), (), rfl, trivial, trivial⟩, hS.F ht9⟩) hS.2.2 dX12_about_112
