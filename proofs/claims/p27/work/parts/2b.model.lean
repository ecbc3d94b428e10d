theorem k_62 : (Cond.code yX12_manyOf cX12_manyOf 2 (some .int)) ∈ TBg := tb_mem 1345 (by decide +kernel) (by decide +kernel)
theorem k_63 : (Cond.methodLink RX12 315 yX12_manyOf) ∈ TBg := tb_mem 1342 (by decide +kernel) (by decide +kernel)
theorem k_64 : (Cond.instanceMethod yX12_manyOf) ∈ TBg := tb_mem 1344 (by decide +kernel) (by decide +kernel)
theorem k_65 : (Cond.selects RX12 yX12_manyOf yX12_manyOf) ∈ TBg := tb_mem 59 (by decide +kernel) (by decide +kernel)
theorem k_66 : (Cond.code yX12_isOutOfPace cX12_isOutOfPace 5 (some .boolean)) ∈ TBg := tb_mem 1366 (by decide +kernel) (by decide +kernel)
theorem k_67 : (Cond.methodLink RX12 318 yX12_isOutOfPace) ∈ TBg := tb_mem 1363 (by decide +kernel) (by decide +kernel)
theorem k_68 : (Cond.instanceMethod yX12_isOutOfPace) ∈ TBg := tb_mem 1365 (by decide +kernel) (by decide +kernel)
theorem k_69 : (Cond.selects RX12 yX12_isOutOfPace yX12_isOutOfPace) ∈ TBg := tb_mem 62 (by decide +kernel) (by decide +kernel)
theorem k_70 : (Cond.code yX12_stepOf cX12_stepOf 3 (some .int)) ∈ TBg := tb_mem 1353 (by decide +kernel) (by decide +kernel)
theorem k_71 : (Cond.methodLink RX12 322 yX12_stepOf) ∈ TBg := tb_mem 1350 (by decide +kernel) (by decide +kernel)
theorem k_72 : (Cond.instanceMethod yX12_stepOf) ∈ TBg := tb_mem 1352 (by decide +kernel) (by decide +kernel)
theorem k_73 : (Cond.selects RX12 yX12_stepOf yX12_stepOf) ∈ TBg := tb_mem 60 (by decide +kernel) (by decide +kernel)
theorem k_74 : (Cond.code yX12_away cX12_away 1 (some .int)) ∈ TBg := tb_mem 1369 (by decide +kernel) (by decide +kernel)
theorem k_75 : (Cond.methodLink RX12 325 yX12_away) ∈ TBg := tb_mem 1367 (by decide +kernel) (by decide +kernel)
theorem k_76 : (Cond.static yX12_away) ∈ TBg := tb_mem 1368 (by decide +kernel) (by decide +kernel)
theorem k_77 : (Cond.code yX12_offAt cX12_offAt 6 (some .int)) ∈ TBg := tb_mem 1362 (by decide +kernel) (by decide +kernel)
theorem k_78 : (Cond.methodLink RX12 328 yX12_offAt) ∈ TBg := tb_mem 1359 (by decide +kernel) (by decide +kernel)
theorem k_79 : (Cond.instanceMethod yX12_offAt) ∈ TBg := tb_mem 1361 (by decide +kernel) (by decide +kernel)
theorem k_80 : (Cond.selects RX12 yX12_offAt yX12_offAt) ∈ TBg := tb_mem 61 (by decide +kernel) (by decide +kernel)
theorem k_81 : (Cond.code yX12_placeOf cX12_placeOf 5 (some .int)) ∈ TBg := tb_mem 1381 (by decide +kernel) (by decide +kernel)
theorem k_82 : (Cond.methodLink RX12 332 yX12_placeOf) ∈ TBg := tb_mem 1378 (by decide +kernel) (by decide +kernel)
theorem k_83 : (Cond.instanceMethod yX12_placeOf) ∈ TBg := tb_mem 1380 (by decide +kernel) (by decide +kernel)
theorem k_84 : (Cond.selects RX12 yX12_placeOf yX12_placeOf) ∈ TBg := tb_mem 64 (by decide +kernel) (by decide +kernel)
theorem k_85 : (Cond.code yX12_firstOff cX12_firstOff 5 (some .int)) ∈ TBg := tb_mem 1385 (by decide +kernel) (by decide +kernel)
theorem k_86 : (Cond.methodLink RX12 335 yX12_firstOff) ∈ TBg := tb_mem 1382 (by decide +kernel) (by decide +kernel)
theorem k_87 : (Cond.instanceMethod yX12_firstOff) ∈ TBg := tb_mem 1384 (by decide +kernel) (by decide +kernel)
theorem k_88 : (Cond.selects RX12 yX12_firstOff yX12_firstOff) ∈ TBg := tb_mem 65 (by decide +kernel) (by decide +kernel)
theorem k_89 : (Cond.code yX12_isTune cX12_isTune 2 (some .boolean)) ∈ TBg := tb_mem 1334 (by decide +kernel) (by decide +kernel)
theorem k_90 : (Cond.methodLink RX12 338 yX12_isTune) ∈ TBg := tb_mem 1331 (by decide +kernel) (by decide +kernel)
theorem k_91 : (Cond.instanceMethod yX12_isTune) ∈ TBg := tb_mem 1333 (by decide +kernel) (by decide +kernel)
theorem k_92 : (Cond.selects RX12 yX12_isTune yX12_isTune) ∈ TBg := tb_mem 57 (by decide +kernel) (by decide +kernel)
theorem k_93 : (Cond.code yX12_songOf cX12_songOf 2 (some .int)) ∈ TBg := tb_mem 1341 (by decide +kernel) (by decide +kernel)
theorem k_94 : (Cond.methodLink RX12 341 yX12_songOf) ∈ TBg := tb_mem 1338 (by decide +kernel) (by decide +kernel)
theorem k_95 : (Cond.instanceMethod yX12_songOf) ∈ TBg := tb_mem 1340 (by decide +kernel) (by decide +kernel)
theorem k_96 : (Cond.selects RX12 yX12_songOf yX12_songOf) ∈ TBg := tb_mem 58 (by decide +kernel) (by decide +kernel)
theorem k_97 : (Cond.constant RX12 344 (-1000000)) ∈ TBg := tb_mem 1354 (by decide +kernel) (by decide +kernel)
theorem k_98 : (Cond.code yX12_inWhat cX12_inWhat 5 (some .int)) ∈ TBg := tb_mem 1377 (by decide +kernel) (by decide +kernel)
theorem k_99 : (Cond.methodLink RX12 345 yX12_inWhat) ∈ TBg := tb_mem 1374 (by decide +kernel) (by decide +kernel)
theorem k_100 : (Cond.instanceMethod yX12_inWhat) ∈ TBg := tb_mem 1376 (by decide +kernel) (by decide +kernel)
theorem k_101 : (Cond.selects RX12 yX12_inWhat yX12_inWhat) ∈ TBg := tb_mem 63 (by decide +kernel) (by decide +kernel)
theorem dX12_offAt_0 : decode cX12_offAt 0 = .ok (.iconst 0, 1) := by decide +kernel
theorem dX12_offAt_1 : decode cX12_offAt 1 = .ok (.istore 4, 2) := by decide +kernel
theorem dX12_offAt_3 : decode cX12_offAt 3 = .ok (.iconst 0, 1) := by decide +kernel
theorem dX12_offAt_4 : decode cX12_offAt 4 = .ok (.istore 5, 2) := by decide +kernel
theorem dX12_offAt_6 : decode cX12_offAt 6 = .ok (.iload 5, 2) := by decide +kernel
theorem dX12_offAt_8 : decode cX12_offAt 8 = .ok (.aload_n 0, 1) := by decide +kernel
theorem dX12_offAt_9 : decode cX12_offAt 9 = .ok (.iload_n 1, 1) := by decide +kernel
theorem dX12_offAt_10 : decode cX12_offAt 10 = .ok (.invokevirtual 315, 3) := by decide +kernel
theorem dX12_offAt_13 : decode cX12_offAt 13 = .ok (.if_icmp .ge 68, 3) := by decide +kernel
theorem dX12_offAt_81 : decode cX12_offAt 81 = .ok (.iload 4, 2) := by decide +kernel
theorem dX12_offAt_83 : decode cX12_offAt 83 = .ok (.ireturn, 1) := by decide +kernel
theorem dX12_offAt_16 : decode cX12_offAt 16 = .ok (.iload 4, 2) := by decide +kernel
theorem dX12_offAt_18 : decode cX12_offAt 18 = .ok (.aload_n 0, 1) := by decide +kernel
theorem dX12_offAt_19 : decode cX12_offAt 19 = .ok (.iload_n 1, 1) := by decide +kernel
theorem dX12_offAt_20 : decode cX12_offAt 20 = .ok (.iload_n 2, 1) := by decide +kernel
theorem dX12_offAt_21 : decode cX12_offAt 21 = .ok (.iload_n 3, 1) := by decide +kernel
theorem dX12_offAt_22 : decode cX12_offAt 22 = .ok (.iload 5, 2) := by decide +kernel
theorem dX12_offAt_24 : decode cX12_offAt 24 = .ok (.invokevirtual 318, 3) := by decide +kernel
theorem dX12_offAt_27 : decode cX12_offAt 27 = .ok (.ifCond .eq 7, 3) := by decide +kernel
theorem dX12_offAt_34 : decode cX12_offAt 34 = .ok (.iconst 0, 1) := by decide +kernel
theorem dX12_offAt_35 : decode cX12_offAt 35 = .ok (.iadd, 1) := by decide +kernel
theorem dX12_offAt_36 : decode cX12_offAt 36 = .ok (.istore 4, 2) := by decide +kernel
theorem dX12_offAt_38 : decode cX12_offAt 38 = .ok (.iload 5, 2) := by decide +kernel
theorem dX12_offAt_40 : decode cX12_offAt 40 = .ok (.iconst 1, 1) := by decide +kernel
theorem dX12_offAt_41 : decode cX12_offAt 41 = .ok (.iadd, 1) := by decide +kernel
theorem dX12_offAt_42 : decode cX12_offAt 42 = .ok (.aload_n 0, 1) := by decide +kernel
theorem dX12_offAt_43 : decode cX12_offAt 43 = .ok (.iload_n 1, 1) := by decide +kernel
theorem dX12_offAt_44 : decode cX12_offAt 44 = .ok (.invokevirtual 315, 3) := by decide +kernel
theorem dX12_offAt_47 : decode cX12_offAt 47 = .ok (.if_icmp .ge 28, 3) := by decide +kernel
theorem dX12_offAt_75 : decode cX12_offAt 75 = .ok (.iinc 5 1, 3) := by decide +kernel
theorem dX12_offAt_78 : decode cX12_offAt 78 = .ok (.goto (-72), 3) := by decide +kernel
theorem dX12_offAt_50 : decode cX12_offAt 50 = .ok (.iload 4, 2) := by decide +kernel
theorem dX12_offAt_52 : decode cX12_offAt 52 = .ok (.aload_n 0, 1) := by decide +kernel
theorem dX12_offAt_53 : decode cX12_offAt 53 = .ok (.iload_n 1, 1) := by decide +kernel
theorem dX12_offAt_54 : decode cX12_offAt 54 = .ok (.iload 5, 2) := by decide +kernel
theorem dX12_offAt_56 : decode cX12_offAt 56 = .ok (.invokevirtual 322, 3) := by decide +kernel
theorem dX12_offAt_59 : decode cX12_offAt 59 = .ok (.aload_n 0, 1) := by decide +kernel
theorem dX12_offAt_60 : decode cX12_offAt 60 = .ok (.iload_n 2, 1) := by decide +kernel
theorem dX12_offAt_61 : decode cX12_offAt 61 = .ok (.iload_n 3, 1) := by decide +kernel
theorem dX12_offAt_62 : decode cX12_offAt 62 = .ok (.iload 5, 2) := by decide +kernel
theorem dX12_offAt_64 : decode cX12_offAt 64 = .ok (.iadd, 1) := by decide +kernel
theorem dX12_offAt_65 : decode cX12_offAt 65 = .ok (.invokevirtual 322, 3) := by decide +kernel
theorem dX12_offAt_68 : decode cX12_offAt 68 = .ok (.isub, 1) := by decide +kernel
theorem dX12_offAt_69 : decode cX12_offAt 69 = .ok (.invokestatic 325, 3) := by decide +kernel
theorem dX12_offAt_72 : decode cX12_offAt 72 = .ok (.iadd, 1) := by decide +kernel
theorem dX12_offAt_73 : decode cX12_offAt 73 = .ok (.istore 4, 2) := by decide +kernel
theorem dX12_offAt_30 : decode cX12_offAt 30 = .ok (.iconst 1, 1) := by decide +kernel
theorem dX12_offAt_31 : decode cX12_offAt 31 = .ok (.goto 4, 3) := by decide +kernel
theorem dX12_placeOf_0 : decode cX12_placeOf 0 = .ok (.iconst (-1), 1) := by decide +kernel
theorem dX12_placeOf_1 : decode cX12_placeOf 1 = .ok (.istore_n 3, 1) := by decide +kernel
theorem dX12_placeOf_2 : decode cX12_placeOf 2 = .ok (.iconst 0, 1) := by decide +kernel
theorem dX12_placeOf_3 : decode cX12_placeOf 3 = .ok (.istore 4, 2) := by decide +kernel
theorem dX12_placeOf_5 : decode cX12_placeOf 5 = .ok (.iload 4, 2) := by decide +kernel
theorem dX12_placeOf_7 : decode cX12_placeOf 7 = .ok (.aload_n 0, 1) := by decide +kernel
theorem dX12_placeOf_8 : decode cX12_placeOf 8 = .ok (.iload_n 1, 1) := by decide +kernel
theorem dX12_placeOf_9 : decode cX12_placeOf 9 = .ok (.invokevirtual 315, 3) := by decide +kernel
theorem dX12_placeOf_12 : decode cX12_placeOf 12 = .ok (.iadd, 1) := by decide +kernel
theorem dX12_placeOf_13 : decode cX12_placeOf 13 = .ok (.aload_n 0, 1) := by decide +kernel
theorem dX12_placeOf_14 : decode cX12_placeOf 14 = .ok (.iload_n 2, 1) := by decide +kernel
theorem dX12_placeOf_15 : decode cX12_placeOf 15 = .ok (.invokevirtual 315, 3) := by decide +kernel
theorem dX12_placeOf_18 : decode cX12_placeOf 18 = .ok (.if_icmp .gt 34, 3) := by decide +kernel
theorem dX12_placeOf_52 : decode cX12_placeOf 52 = .ok (.iload_n 3, 1) := by decide +kernel
theorem dX12_placeOf_53 : decode cX12_placeOf 53 = .ok (.ireturn, 1) := by decide +kernel
theorem dX12_placeOf_21 : decode cX12_placeOf 21 = .ok (.iload_n 3, 1) := by decide +kernel
theorem dX12_placeOf_22 : decode cX12_placeOf 22 = .ok (.ifCond .lt 21, 3) := by decide +kernel
theorem dX12_placeOf_43 : decode cX12_placeOf 43 = .ok (.iload 4, 2) := by decide +kernel
theorem dX12_placeOf_45 : decode cX12_placeOf 45 = .ok (.istore_n 3, 1) := by decide +kernel
theorem dX12_placeOf_46 : decode cX12_placeOf 46 = .ok (.iinc 4 1, 3) := by decide +kernel
theorem dX12_placeOf_49 : decode cX12_placeOf 49 = .ok (.goto (-44), 3) := by decide +kernel
theorem dX12_placeOf_25 : decode cX12_placeOf 25 = .ok (.aload_n 0, 1) := by decide +kernel
theorem dX12_placeOf_26 : decode cX12_placeOf 26 = .ok (.iload_n 1, 1) := by decide +kernel
theorem dX12_placeOf_27 : decode cX12_placeOf 27 = .ok (.iload_n 2, 1) := by decide +kernel
theorem dX12_placeOf_28 : decode cX12_placeOf 28 = .ok (.iload 4, 2) := by decide +kernel
theorem dX12_placeOf_30 : decode cX12_placeOf 30 = .ok (.invokevirtual 328, 3) := by decide +kernel
theorem dX12_placeOf_33 : decode cX12_placeOf 33 = .ok (.aload_n 0, 1) := by decide +kernel
theorem dX12_placeOf_34 : decode cX12_placeOf 34 = .ok (.iload_n 1, 1) := by decide +kernel
theorem dX12_placeOf_35 : decode cX12_placeOf 35 = .ok (.iload_n 2, 1) := by decide +kernel
theorem dX12_placeOf_36 : decode cX12_placeOf 36 = .ok (.iload_n 3, 1) := by decide +kernel
theorem dX12_placeOf_37 : decode cX12_placeOf 37 = .ok (.invokevirtual 328, 3) := by decide +kernel
theorem dX12_placeOf_40 : decode cX12_placeOf 40 = .ok (.if_icmp .ge 6, 3) := by decide +kernel
theorem dX12_firstOff_0 : decode cX12_firstOff 0 = .ok (.iconst 1, 1) := by decide +kernel
theorem dX12_firstOff_1 : decode cX12_firstOff 1 = .ok (.istore 4, 2) := by decide +kernel
theorem dX12_firstOff_3 : decode cX12_firstOff 3 = .ok (.iload 4, 2) := by decide +kernel
theorem dX12_firstOff_5 : decode cX12_firstOff 5 = .ok (.aload_n 0, 1) := by decide +kernel
theorem dX12_firstOff_6 : decode cX12_firstOff 6 = .ok (.iload_n 1, 1) := by decide +kernel
theorem dX12_firstOff_7 : decode cX12_firstOff 7 = .ok (.invokevirtual 315, 3) := by decide +kernel
theorem dX12_firstOff_10 : decode cX12_firstOff 10 = .ok (.if_icmp .ge 47, 3) := by decide +kernel
theorem dX12_firstOff_57 : decode cX12_firstOff 57 = .ok (.iconst (-1), 1) := by decide +kernel
theorem dX12_firstOff_58 : decode cX12_firstOff 58 = .ok (.ireturn, 1) := by decide +kernel
theorem dX12_firstOff_13 : decode cX12_firstOff 13 = .ok (.aload_n 0, 1) := by decide +kernel
theorem dX12_firstOff_14 : decode cX12_firstOff 14 = .ok (.iload_n 1, 1) := by decide +kernel
theorem dX12_firstOff_15 : decode cX12_firstOff 15 = .ok (.iload 4, 2) := by decide +kernel
theorem dX12_firstOff_17 : decode cX12_firstOff 17 = .ok (.iconst 1, 1) := by decide +kernel
theorem dX12_firstOff_18 : decode cX12_firstOff 18 = .ok (.isub, 1) := by decide +kernel
theorem dX12_firstOff_19 : decode cX12_firstOff 19 = .ok (.invokevirtual 322, 3) := by decide +kernel
theorem dX12_firstOff_22 : decode cX12_firstOff 22 = .ok (.aload_n 0, 1) := by decide +kernel
theorem dX12_firstOff_23 : decode cX12_firstOff 23 = .ok (.iload_n 2, 1) := by decide +kernel
theorem dX12_firstOff_24 : decode cX12_firstOff 24 = .ok (.iload_n 3, 1) := by decide +kernel
theorem dX12_firstOff_25 : decode cX12_firstOff 25 = .ok (.iload 4, 2) := by decide +kernel
theorem dX12_firstOff_27 : decode cX12_firstOff 27 = .ok (.iadd, 1) := by decide +kernel
theorem dX12_firstOff_28 : decode cX12_firstOff 28 = .ok (.iconst 1, 1) := by decide +kernel
theorem dX12_firstOff_29 : decode cX12_firstOff 29 = .ok (.isub, 1) := by decide +kernel
theorem dX12_firstOff_30 : decode cX12_firstOff 30 = .ok (.invokevirtual 322, 3) := by decide +kernel
theorem dX12_firstOff_33 : decode cX12_firstOff 33 = .ok (.if_icmp .ne 15, 3) := by decide +kernel
theorem dX12_firstOff_48 : decode cX12_firstOff 48 = .ok (.iload 4, 2) := by decide +kernel
theorem dX12_firstOff_50 : decode cX12_firstOff 50 = .ok (.ireturn, 1) := by decide +kernel
theorem dX12_firstOff_36 : decode cX12_firstOff 36 = .ok (.aload_n 0, 1) := by decide +kernel
theorem dX12_firstOff_37 : decode cX12_firstOff 37 = .ok (.iload_n 1, 1) := by decide +kernel
theorem dX12_firstOff_38 : decode cX12_firstOff 38 = .ok (.iload_n 2, 1) := by decide +kernel
theorem dX12_firstOff_39 : decode cX12_firstOff 39 = .ok (.iload_n 3, 1) := by decide +kernel
theorem dX12_firstOff_40 : decode cX12_firstOff 40 = .ok (.iload 4, 2) := by decide +kernel
theorem dX12_firstOff_42 : decode cX12_firstOff 42 = .ok (.invokevirtual 318, 3) := by decide +kernel
theorem dX12_firstOff_45 : decode cX12_firstOff 45 = .ok (.ifCond .eq 6, 3) := by decide +kernel
theorem dX12_firstOff_51 : decode cX12_firstOff 51 = .ok (.iinc 4 1, 3) := by decide +kernel
theorem dX12_firstOff_54 : decode cX12_firstOff 54 = .ok (.goto (-51), 3) := by decide +kernel
theorem dX12_inWhat_0 : decode cX12_inWhat 0 = .ok (.aload_n 0, 1) := by decide +kernel
theorem dX12_inWhat_1 : decode cX12_inWhat 1 = .ok (.iload_n 1, 1) := by decide +kernel
theorem dX12_inWhat_2 : decode cX12_inWhat 2 = .ok (.iload_n 2, 1) := by decide +kernel
theorem dX12_inWhat_3 : decode cX12_inWhat 3 = .ok (.invokevirtual 332, 3) := by decide +kernel
theorem dX12_inWhat_6 : decode cX12_inWhat 6 = .ok (.istore 4, 2) := by decide +kernel
theorem dX12_inWhat_8 : decode cX12_inWhat 8 = .ok (.iload 4, 2) := by decide +kernel
theorem dX12_inWhat_10 : decode cX12_inWhat 10 = .ok (.ifCond .lt 12, 3) := by decide +kernel
theorem dX12_inWhat_22 : decode cX12_inWhat 22 = .ok (.iconst (-1), 1) := by decide +kernel
theorem dX12_inWhat_23 : decode cX12_inWhat 23 = .ok (.ireturn, 1) := by decide +kernel
theorem dX12_inWhat_13 : decode cX12_inWhat 13 = .ok (.iload_n 3, 1) := by decide +kernel
theorem dX12_inWhat_14 : decode cX12_inWhat 14 = .ok (.iconst 0, 1) := by decide +kernel
theorem dX12_inWhat_15 : decode cX12_inWhat 15 = .ok (.iconst 2, 1) := by decide +kernel
theorem dX12_inWhat_16 : decode cX12_inWhat 16 = .ok (.invokestatic 311, 3) := by decide +kernel
theorem dX12_inWhat_19 : decode cX12_inWhat 19 = .ok (.ifCond .ne 5, 3) := by decide +kernel
theorem dX12_inWhat_24 : decode cX12_inWhat 24 = .ok (.iload_n 3, 1) := by decide +kernel
theorem dX12_inWhat_25 : decode cX12_inWhat 25 = .ok (.ifCond .ne 8, 3) := by decide +kernel
theorem dX12_inWhat_33 : decode cX12_inWhat 33 = .ok (.iload_n 3, 1) := by decide +kernel
theorem dX12_inWhat_34 : decode cX12_inWhat 34 = .ok (.iconst 1, 1) := by decide +kernel
theorem dX12_inWhat_35 : decode cX12_inWhat 35 = .ok (.if_icmp .ne 14, 3) := by decide +kernel
theorem dX12_inWhat_49 : decode cX12_inWhat 49 = .ok (.aload_n 0, 1) := by decide +kernel
theorem dX12_inWhat_50 : decode cX12_inWhat 50 = .ok (.iload_n 1, 1) := by decide +kernel
theorem dX12_inWhat_51 : decode cX12_inWhat 51 = .ok (.iload_n 2, 1) := by decide +kernel
theorem dX12_inWhat_52 : decode cX12_inWhat 52 = .ok (.iload 4, 2) := by decide +kernel
theorem dX12_inWhat_54 : decode cX12_inWhat 54 = .ok (.invokevirtual 335, 3) := by decide +kernel
theorem dX12_inWhat_57 : decode cX12_inWhat 57 = .ok (.ireturn, 1) := by decide +kernel
theorem dX12_inWhat_38 : decode cX12_inWhat 38 = .ok (.aload_n 0, 1) := by decide +kernel
theorem dX12_inWhat_39 : decode cX12_inWhat 39 = .ok (.iload_n 1, 1) := by decide +kernel
theorem dX12_inWhat_40 : decode cX12_inWhat 40 = .ok (.iload_n 2, 1) := by decide +kernel
theorem dX12_inWhat_41 : decode cX12_inWhat 41 = .ok (.iload 4, 2) := by decide +kernel
theorem dX12_inWhat_43 : decode cX12_inWhat 43 = .ok (.invokevirtual 328, 3) := by decide +kernel
theorem dX12_inWhat_46 : decode cX12_inWhat 46 = .ok (.goto 11, 3) := by decide +kernel
theorem dX12_inWhat_28 : decode cX12_inWhat 28 = .ok (.iload 4, 2) := by decide +kernel
theorem dX12_inWhat_30 : decode cX12_inWhat 30 = .ok (.goto 27, 3) := by decide +kernel
theorem dX12_isWithin_0 : decode cX12_isWithin 0 = .ok (.aload_n 0, 1) := by decide +kernel
theorem dX12_isWithin_1 : decode cX12_isWithin 1 = .ok (.iload_n 1, 1) := by decide +kernel
theorem dX12_isWithin_2 : decode cX12_isWithin 2 = .ok (.iload_n 2, 1) := by decide +kernel
theorem dX12_isWithin_3 : decode cX12_isWithin 3 = .ok (.invokevirtual 332, 3) := by decide +kernel
theorem dX12_isWithin_6 : decode cX12_isWithin 6 = .ok (.istore 4, 2) := by decide +kernel
theorem dX12_isWithin_8 : decode cX12_isWithin 8 = .ok (.iload 4, 2) := by decide +kernel
theorem dX12_isWithin_10 : decode cX12_isWithin 10 = .ok (.ifCond .lt 19, 3) := by decide +kernel
theorem dX12_isWithin_29 : decode cX12_isWithin 29 = .ok (.iconst 0, 1) := by decide +kernel
theorem dX12_isWithin_30 : decode cX12_isWithin 30 = .ok (.ireturn, 1) := by decide +kernel
theorem dX12_isWithin_13 : decode cX12_isWithin 13 = .ok (.aload_n 0, 1) := by decide +kernel
theorem dX12_isWithin_14 : decode cX12_isWithin 14 = .ok (.iload_n 1, 1) := by decide +kernel
theorem dX12_isWithin_15 : decode cX12_isWithin 15 = .ok (.iload_n 2, 1) := by decide +kernel
theorem dX12_isWithin_16 : decode cX12_isWithin 16 = .ok (.iload 4, 2) := by decide +kernel
theorem dX12_isWithin_18 : decode cX12_isWithin 18 = .ok (.invokevirtual 328, 3) := by decide +kernel
theorem dX12_isWithin_21 : decode cX12_isWithin 21 = .ok (.iload_n 3, 1) := by decide +kernel
theorem dX12_isWithin_22 : decode cX12_isWithin 22 = .ok (.if_icmp .gt 7, 3) := by decide +kernel
theorem dX12_isWithin_25 : decode cX12_isWithin 25 = .ok (.iconst 1, 1) := by decide +kernel
theorem dX12_isWithin_26 : decode cX12_isWithin 26 = .ok (.goto 4, 3) := by decide +kernel
theorem dX12_notes_0 : decode cX12_notes 0 = .ok (.aload_n 0, 1) := by decide +kernel
theorem dX12_notes_1 : decode cX12_notes 1 = .ok (.iload_n 1, 1) := by decide +kernel
theorem dX12_notes_2 : decode cX12_notes 2 = .ok (.invokevirtual 338, 3) := by decide +kernel
theorem dX12_notes_5 : decode cX12_notes 5 = .ok (.ifCond .eq 15, 3) := by decide +kernel
theorem dX12_notes_20 : decode cX12_notes 20 = .ok (.iconst (-1), 1) := by decide +kernel
theorem dX12_notes_21 : decode cX12_notes 21 = .ok (.ireturn, 1) := by decide +kernel
theorem dX12_notes_8 : decode cX12_notes 8 = .ok (.aload_n 0, 1) := by decide +kernel
theorem dX12_notes_9 : decode cX12_notes 9 = .ok (.aload_n 0, 1) := by decide +kernel
theorem dX12_notes_10 : decode cX12_notes 10 = .ok (.iload_n 1, 1) := by decide +kernel
theorem dX12_notes_11 : decode cX12_notes 11 = .ok (.invokevirtual 341, 3) := by decide +kernel
theorem dX12_notes_14 : decode cX12_notes 14 = .ok (.invokevirtual 315, 3) := by decide +kernel
theorem dX12_notes_17 : decode cX12_notes 17 = .ok (.goto 4, 3) := by decide +kernel
theorem dX12_step_0 : decode cX12_step 0 = .ok (.aload_n 0, 1) := by decide +kernel
theorem dX12_step_1 : decode cX12_step 1 = .ok (.iload_n 1, 1) := by decide +kernel
theorem dX12_step_2 : decode cX12_step 2 = .ok (.invokevirtual 338, 3) := by decide +kernel
theorem dX12_step_5 : decode cX12_step 5 = .ok (.ifCond .eq 35, 3) := by decide +kernel
theorem dX12_step_40 : decode cX12_step 40 = .ok (.ldc_w 344, 3) := by decide +kernel
theorem dX12_step_43 : decode cX12_step 43 = .ok (.ireturn, 1) := by decide +kernel
theorem dX12_step_8 : decode cX12_step 8 = .ok (.iload_n 2, 1) := by decide +kernel
theorem dX12_step_9 : decode cX12_step 9 = .ok (.iconst 0, 1) := by decide +kernel
theorem dX12_step_10 : decode cX12_step 10 = .ok (.aload_n 0, 1) := by decide +kernel
theorem dX12_step_11 : decode cX12_step 11 = .ok (.aload_n 0, 1) := by decide +kernel
theorem dX12_step_12 : decode cX12_step 12 = .ok (.iload_n 1, 1) := by decide +kernel
theorem dX12_step_13 : decode cX12_step 13 = .ok (.invokevirtual 341, 3) := by decide +kernel
theorem dX12_step_16 : decode cX12_step 16 = .ok (.invokevirtual 315, 3) := by decide +kernel
theorem dX12_step_19 : decode cX12_step 19 = .ok (.iconst 2, 1) := by decide +kernel
theorem dX12_step_20 : decode cX12_step 20 = .ok (.isub, 1) := by decide +kernel
theorem dX12_step_21 : decode cX12_step 21 = .ok (.invokestatic 311, 3) := by decide +kernel
theorem dX12_step_24 : decode cX12_step 24 = .ok (.ifCond .eq 16, 3) := by decide +kernel
theorem dX12_step_27 : decode cX12_step 27 = .ok (.aload_n 0, 1) := by decide +kernel
theorem dX12_step_28 : decode cX12_step 28 = .ok (.aload_n 0, 1) := by decide +kernel
theorem dX12_step_29 : decode cX12_step 29 = .ok (.iload_n 1, 1) := by decide +kernel
theorem dX12_step_30 : decode cX12_step 30 = .ok (.invokevirtual 341, 3) := by decide +kernel
theorem dX12_step_33 : decode cX12_step 33 = .ok (.iload_n 2, 1) := by decide +kernel
theorem dX12_step_34 : decode cX12_step 34 = .ok (.invokevirtual 322, 3) := by decide +kernel
theorem dX12_step_37 : decode cX12_step 37 = .ok (.goto 6, 3) := by decide +kernel
theorem dX12_off_0 : decode cX12_off 0 = .ok (.aload_n 0, 1) := by decide +kernel
theorem dX12_off_1 : decode cX12_off 1 = .ok (.iload_n 1, 1) := by decide +kernel
theorem dX12_off_2 : decode cX12_off 2 = .ok (.invokevirtual 338, 3) := by decide +kernel
theorem dX12_off_5 : decode cX12_off 5 = .ok (.ifCond .eq 38, 3) := by decide +kernel
theorem dX12_off_43 : decode cX12_off 43 = .ok (.iconst (-1), 1) := by decide +kernel
theorem dX12_off_44 : decode cX12_off 44 = .ok (.ireturn, 1) := by decide +kernel
theorem dX12_off_8 : decode cX12_off 8 = .ok (.aload_n 0, 1) := by decide +kernel
theorem dX12_off_9 : decode cX12_off 9 = .ok (.iload_n 2, 1) := by decide +kernel
theorem dX12_off_10 : decode cX12_off 10 = .ok (.invokevirtual 338, 3) := by decide +kernel
theorem dX12_off_13 : decode cX12_off 13 = .ok (.ifCond .eq 30, 3) := by decide +kernel
theorem dX12_off_16 : decode cX12_off 16 = .ok (.iload_n 3, 1) := by decide +kernel
theorem dX12_off_17 : decode cX12_off 17 = .ok (.iconst 0, 1) := by decide +kernel
theorem dX12_off_18 : decode cX12_off 18 = .ok (.aload_n 0, 1) := by decide +kernel
theorem dX12_off_19 : decode cX12_off 19 = .ok (.aload_n 0, 1) := by decide +kernel
theorem dX12_off_20 : decode cX12_off 20 = .ok (.iload_n 2, 1) := by decide +kernel
theorem dX12_off_21 : decode cX12_off 21 = .ok (.invokevirtual 341, 3) := by decide +kernel
theorem dX12_off_24 : decode cX12_off 24 = .ok (.invokevirtual 315, 3) := by decide +kernel
theorem dX12_off_27 : decode cX12_off 27 = .ok (.aload_n 0, 1) := by decide +kernel
theorem dX12_off_28 : decode cX12_off 28 = .ok (.aload_n 0, 1) := by decide +kernel
theorem dX12_off_29 : decode cX12_off 29 = .ok (.iload_n 1, 1) := by decide +kernel
theorem dX12_off_30 : decode cX12_off 30 = .ok (.invokevirtual 341, 3) := by decide +kernel
theorem dX12_off_33 : decode cX12_off 33 = .ok (.invokevirtual 315, 3) := by decide +kernel
theorem dX12_off_36 : decode cX12_off 36 = .ok (.isub, 1) := by decide +kernel
theorem dX12_off_37 : decode cX12_off 37 = .ok (.invokestatic 311, 3) := by decide +kernel
theorem dX12_off_40 : decode cX12_off 40 = .ok (.ifCond .ne 5, 3) := by decide +kernel
theorem dX12_off_45 : decode cX12_off 45 = .ok (.aload_n 0, 1) := by decide +kernel
theorem dX12_off_46 : decode cX12_off 46 = .ok (.aload_n 0, 1) := by decide +kernel
theorem dX12_off_47 : decode cX12_off 47 = .ok (.iload_n 1, 1) := by decide +kernel
theorem dX12_off_48 : decode cX12_off 48 = .ok (.invokevirtual 341, 3) := by decide +kernel
theorem dX12_off_51 : decode cX12_off 51 = .ok (.aload_n 0, 1) := by decide +kernel
theorem dX12_off_52 : decode cX12_off 52 = .ok (.iload_n 2, 1) := by decide +kernel
theorem dX12_off_53 : decode cX12_off 53 = .ok (.invokevirtual 341, 3) := by decide +kernel
theorem dX12_off_56 : decode cX12_off 56 = .ok (.iload_n 3, 1) := by decide +kernel
theorem dX12_off_57 : decode cX12_off 57 = .ok (.invokevirtual 328, 3) := by decide +kernel
theorem dX12_off_60 : decode cX12_off 60 = .ok (.ireturn, 1) := by decide +kernel
theorem dX12_in_0 : decode cX12_in 0 = .ok (.aload_n 0, 1) := by decide +kernel
theorem dX12_in_1 : decode cX12_in 1 = .ok (.iload_n 1, 1) := by decide +kernel
theorem dX12_in_2 : decode cX12_in 2 = .ok (.invokevirtual 338, 3) := by decide +kernel
theorem dX12_in_5 : decode cX12_in 5 = .ok (.ifCond .eq 29, 3) := by decide +kernel
theorem dX12_in_34 : decode cX12_in 34 = .ok (.iconst (-1), 1) := by decide +kernel
theorem dX12_in_35 : decode cX12_in 35 = .ok (.ireturn, 1) := by decide +kernel
theorem dX12_in_8 : decode cX12_in 8 = .ok (.aload_n 0, 1) := by decide +kernel
theorem dX12_in_9 : decode cX12_in 9 = .ok (.iload_n 2, 1) := by decide +kernel
theorem dX12_in_10 : decode cX12_in 10 = .ok (.invokevirtual 338, 3) := by decide +kernel
theorem dX12_in_13 : decode cX12_in 13 = .ok (.ifCond .eq 21, 3) := by decide +kernel
theorem dX12_in_16 : decode cX12_in 16 = .ok (.aload_n 0, 1) := by decide +kernel
theorem dX12_in_17 : decode cX12_in 17 = .ok (.aload_n 0, 1) := by decide +kernel
theorem dX12_in_18 : decode cX12_in 18 = .ok (.iload_n 1, 1) := by decide +kernel
theorem dX12_in_19 : decode cX12_in 19 = .ok (.invokevirtual 341, 3) := by decide +kernel
theorem dX12_in_22 : decode cX12_in 22 = .ok (.aload_n 0, 1) := by decide +kernel
theorem dX12_in_23 : decode cX12_in 23 = .ok (.iload_n 2, 1) := by decide +kernel
theorem dX12_in_24 : decode cX12_in 24 = .ok (.invokevirtual 341, 3) := by decide +kernel
theorem dX12_in_27 : decode cX12_in 27 = .ok (.iload_n 3, 1) := by decide +kernel
theorem dX12_in_28 : decode cX12_in 28 = .ok (.invokevirtual 345, 3) := by decide +kernel
theorem dX12_in_31 : decode cX12_in 31 = .ok (.goto 4, 3) := by decide +kernel
set_option maxHeartbeats 4000000 in
set_option maxRecDepth 100000 in
theorem m_offAt (l : Launch) (G : va_G) (cy : Nat → ClassId) (sz : Nat) (mo : Nat) (h : Nat → Nat) (T : Int) (v : Nat → Int32) (nm : Int64) (f : Nat → Nat → Int32) (g : Nat → Nat → Int64) (n : Int32) (n2 : Int32) (n3 : Int32)  (hv : MIv T v) (hf : MIf f) (hR : RI v f) (hL : WL v f) (h_n : 0 ≤ n.toInt ∧ n.toInt ≤ 27) (h_n2 : 0 ≤ n2.toInt ∧ n2.toInt ≤ 28) (h_n3 : 0 ≤ n3.toInt ∧ n3.toInt ≤ 40) : Met l yX12_offAt (.code yX12_offAt cX12_offAt 6 (some .int) :: TBg) ({ frames := 2, cells := 0, slots := 0, locals := 128 }) (va_Pc [.ref mo, .int n, .int n2, .int n3] (En G cy (WMs cy mo h v nm f g) sz)) (va_Qi (fun (r : Int32) (_ : Unit) => True) (fun _ _ => True) (va_A [] sz)) 0 0 (va_A [] sz) := by
  refine Met.ofW (cc := cX12_offAt) (maxL := 6) (ret := (some .int)) (by decide) rfl ?_
  intro p e s m args below meth c s₁ B hml hv9
  obtain ⟨rfl, hsz, hP, hK, hD0, hN⟩ := hv9
  have hx := B.exec
  have hb := B.bytes
  have hr := B.returns
  have hts := atoms_spec (ws := .code yX12_offAt cX12_offAt 6 (some .int) :: TBg) B.pre
  have ht : ∀ w ∈ TBg, w.before _ s = true := fun w h => hts w (List.mem_cons_of_mem _ h)
  have hown : s.vm.findClass RX12 = some m.cls := findClass_of_methodNamed B.named
  have hlocks := B.notSynchronized
  subst hsz
  generalize hAe : va_A [] s.heap.size = A at ⊢
  have hA : ∀ q : Nat, s.heap.size ≤ q → A q := fun q h => by rw [← hAe]; exact Or.inr h
  have hS : va_S A s.heap s.heap [] := va_S.rf
  have hl := lv_entry ([.ref mo, .int n, .int n2, .int n3]) (n := 6) (Nat.le_of_ble_eq_true rfl)
  rw [lg_entry_eq]
  generalize (lg_sl ([.ref mo, .int n, .int n2, .int n3]) ++ List.replicate (6 - (lg_sl ([.ref mo, .int n, .int n2, .int n3])).length) Slot.unset).toArray = ls at hl ⊢
  have hl : lv_has ls 6 [(0, .ref mo), (1, .int n), (2, .int n2), (3, .int n3)] := hl
  have z0 : (0 : Int32).toInt = 0 := by decide
  have z1 : (1 : Int32).toInt = 1 := by decide
  refine lv_iconst (v := 0) hx hb dX12_offAt_0 (by decide) ?_
  refine lv_istore (lv' := [(4, .int 0), (0, .ref mo), (1, .int n), (2, .int n2), (3, .int n3)]) hx hb dX12_offAt_1 hl (by decide) rfl (fun ls hl => ?_)
  refine lv_iconst (v := 0) hx hb dX12_offAt_3 (by decide) ?_
  refine lv_istore (lv' := [(5, .int 0), (4, .int 0), (0, .ref mo), (1, .int n), (2, .int n2), (3, .int n3)]) hx hb dX12_offAt_4 hl (by decide) rfl (fun ls hl => ?_)
  refine W.widen (k := 0) (n := 0) (Nat.le_of_ble_eq_true rfl) (Nat.le_of_ble_eq_true rfl) ?_
  have lp_1 : ∀ (N : Nat) (x5_1 : Int32) (x4_1 : Int32) (H : Heap) (locs : List Loc) (ls : Array Slot), (0 ≤ x5_1.toInt ∧ x5_1.toInt ≤ 12) → (12 - x5_1.toInt).toNat < N → va_P G vwCl (WMs cy mo h v nm f g) H → va_S A s.heap H locs → lv_has ls 6 [(5, .int x5_1), (4, .int x4_1), (0, .ref mo), (1, .int n), (2, .int n2), (3, .int n3)] → W p l e (headSpec (.code yX12_offAt cX12_offAt 6 (some .int) :: TBg) ({ frames := 2, cells := 0, slots := 0, locals := 128 })).room s m ([.ref mo, .int n, .int n2, .int n3] : List Value).toArray below meth c H locs 0 0 (MQ below (va_Qi (fun (r : Int32) (_ : Unit) => True) (fun _ _ => True) A) ([.ref mo, .int n, .int n2, .int n3] : List Value).toArray s 0 0 A) (F0 m 6 ls []) := by
    intro N
    induction N with
    | zero => intro x5_1 x4_1 H locs ls qf1_0 hm hP hS hl; exact absurd hm (Nat.not_lt_zero _)
    | succ N ih_1 =>
      intro x5_1 x4_1 H locs ls qf1_0 hm hP hS hl
      refine lv_iload hx hb dX12_offAt_6 (lv_at hl 0 rfl) ?_
      refine lv_aload_n hx hb dX12_offAt_8 rfl (lv_at hl 2 rfl) ?_
      refine lv_iload_n hx hb dX12_offAt_9 rfl (lv_at hl 3 rfl) ?_
      have hFc := fr_new hS hA
      refine va_calli (va_runV (As := [.int n]) (rest := [.int x5_1]) ⟨hx, hb, hml, hown, ht⟩ (m_many27 l G cy _ mo h T v nm f g n  hv hf hR hL (by omega)) (cwV 1 ht (gv k_63 k_64 k_65 k_61 k_62) rfl rfl rfl (by decide +kernel) ⟨Nat.le_of_ble_eq_true rfl, Nat.le_of_ble_eq_true rfl⟩) ⟨En.blind, va_recv hK hP (ci := 12) (q0 := 0) rfl rfl, fun U hU hW => ⟨rfl, En.of hU hW hP hK hD0 hN⟩⟩ rfl rfl hl.1 rfl (lv_room (Nat.le_of_ble_eq_true rfl)) dX12_offAt_10 ⟨Nat.le_of_ble_eq_true rfl, Nat.le_of_ble_eq_true rfl⟩) hS (fun q _ h => hFc q h) hFc (fun r_u_2 u_2 t9 H locs ht9 hvm hw hB hz1 hk1 hS => ?_)
      have hP := fr_keep hP hk1
      have wu_2 := hw
      clear hFc hk1 hz1 hB hw
      refine lv_icmp_ge (tgt := 81) hx hb dX12_offAt_13 (by decide) (fun c_3 => ?_) (fun c_3 => ?_)
      · have q_4 : r_u_2.toInt ≤ x5_1.toInt := (ow_le _ _).mp c_3
        refine lv_iload hx hb dX12_offAt_81 (lv_at hl 1 rfl) ?_
        refine W.widen (k := 0) (n := 0) (Nat.le_of_ble_eq_true rfl) (Nat.le_of_ble_eq_true rfl) ?_
        exact W.iret (v := x4_1) hx hb hr (fun t ht9 hW => ⟨⟨x4_1, (), rfl, trivial, trivial⟩, hS.F ht9⟩) hS.2.2 dX12_offAt_83
      · have q_5 : x5_1.toInt < r_u_2.toInt := by have := (not_congr (ow_le _ _)).mp c_3; omega
        refine lv_iload hx hb dX12_offAt_16 (lv_at hl 1 rfl) ?_
        refine lv_aload_n hx hb dX12_offAt_18 rfl (lv_at hl 2 rfl) ?_
        refine lv_iload_n hx hb dX12_offAt_19 rfl (lv_at hl 3 rfl) ?_
        refine lv_iload_n hx hb dX12_offAt_20 rfl (lv_at hl 4 rfl) ?_
        refine lv_iload_n hx hb dX12_offAt_21 rfl (lv_at hl 5 rfl) ?_
        refine lv_iload hx hb dX12_offAt_22 (lv_at hl 0 rfl) ?_
        have hFc := fr_new hS hA
        refine va_calli (va_runV (As := [.int n, .int n2, .int n3, .int x5_1]) (rest := [.int x4_1]) ⟨hx, hb, hml, hown, ht⟩ (m_isOut l G cy _ mo h T v nm f g n n2 n3 x5_1  hv hf hR hL (by omega) (by omega) (by omega) (by omega)) (cwV 4 ht (gv k_67 k_68 k_69 k_61 k_66) rfl rfl rfl (by decide +kernel) ⟨Nat.le_of_ble_eq_true rfl, Nat.le_of_ble_eq_true rfl⟩) ⟨En.blind, va_recv hK hP (ci := 12) (q0 := 0) rfl rfl, fun U hU hW => ⟨rfl, En.of hU hW hP hK hD0 hN⟩⟩ rfl rfl hl.1 rfl (lv_room (Nat.le_of_ble_eq_true rfl)) dX12_offAt_24 ⟨Nat.le_of_ble_eq_true rfl, Nat.le_of_ble_eq_true rfl⟩) hS (fun q _ h => hFc q h) hFc (fun r_u_6 u_6 t9 H locs ht9 hvm hw hB hz1 hk1 hS => ?_)
        have hP := fr_keep hP hk1
        have wu_6 := hw
        clear hFc hk1 hz1 hB hw
        refine lv_if_eq (tgt := 34) hx hb dX12_offAt_27 (by decide) (fun c_7 => ?_) (fun c_7 => ?_)
        · have q_8 : r_u_6.toInt = (0 : Int32).toInt := (ow_eq _ _).mp c_7
          refine lv_iconst (v := 0) hx hb dX12_offAt_34 (by decide) ?_
          refine lv_iadd hx hb dX12_offAt_35 ?_
          refine lv_topi (fun v_9 ev_9 => ?_)
          refine lv_istore (lv' := [(4, .int v_9), (5, .int x5_1), (0, .ref mo), (1, .int n), (2, .int n2), (3, .int n3)]) hx hb dX12_offAt_36 hl (by decide) rfl (fun ls hl => ?_)
          refine lv_iload hx hb dX12_offAt_38 (lv_at hl 1 rfl) ?_
          refine lv_iconst (v := 1) hx hb dX12_offAt_40 (by decide) ?_
          refine lv_iadd hx hb dX12_offAt_41 ?_
          refine lv_topi (fun v_10 ev_10 => ?_)
          have q_11 : v_10.toInt = x5_1.toInt + (1 : Int32).toInt := ow_add ev_10 (by omega) (by omega)
          refine lv_aload_n hx hb dX12_offAt_42 rfl (lv_at hl 2 rfl) ?_
          refine lv_iload_n hx hb dX12_offAt_43 rfl (lv_at hl 3 rfl) ?_
          have hFc := fr_new hS hA
          refine va_calli (va_runV (As := [.int n]) (rest := [.int v_10]) ⟨hx, hb, hml, hown, ht⟩ (m_many27 l G cy _ mo h T v nm f g n  hv hf hR hL (by omega)) (cwV 1 ht (gv k_63 k_64 k_65 k_61 k_62) rfl rfl rfl (by decide +kernel) ⟨Nat.le_of_ble_eq_true rfl, Nat.le_of_ble_eq_true rfl⟩) ⟨En.blind, va_recv hK hP (ci := 12) (q0 := 0) rfl rfl, fun U hU hW => ⟨rfl, En.of hU hW hP hK hD0 hN⟩⟩ rfl rfl hl.1 rfl (lv_room (Nat.le_of_ble_eq_true rfl)) dX12_offAt_44 ⟨Nat.le_of_ble_eq_true rfl, Nat.le_of_ble_eq_true rfl⟩) hS (fun q _ h => hFc q h) hFc (fun r_u_12 u_12 t9 H locs ht9 hvm hw hB hz1 hk1 hS => ?_)
          have hP := fr_keep hP hk1
          have wu_12 := hw
          clear hFc hk1 hz1 hB hw
          refine lv_icmp_ge (tgt := 75) hx hb dX12_offAt_47 (by decide) (fun c_13 => ?_) (fun c_13 => ?_)
          · have q_14 : r_u_12.toInt ≤ v_10.toInt := (ow_le _ _).mp c_13
            obtain ⟨v_15, ev_15⟩ : ∃ y : Int32, y = x5_1 + 1 := ⟨_, rfl⟩
            refine lv_iinc (v := v_15) (lv' := [(5, .int v_15), (4, .int v_9), (0, .ref mo), (1, .int n), (2, .int n2), (3, .int n3)]) hx hb dX12_offAt_75 hl (k := 1) rfl (by rw [ev_15]; rfl) (by decide) rfl (fun ls hl => ?_)
            have q_16 : v_15.toInt = x5_1.toInt + 1 := by have := ow_add ev_15 (by omega) (by omega); omega
            refine lv_goto (tgt := 6) hx hb dX12_offAt_78 (by decide) ?_
            refine W.widen (k := 0) (n := 0) (Nat.le_of_ble_eq_true rfl) (Nat.le_of_ble_eq_true rfl) ?_
            exact ih_1 v_15 v_9 _ _ _ (by omega) (by omega) hP hS (lv_sub hl [0, 1, 2, 3, 4, 5] rfl)
          · have q_17 : v_10.toInt < r_u_12.toInt := by have := (not_congr (ow_le _ _)).mp c_13; omega
            refine lv_iload hx hb dX12_offAt_50 (lv_at hl 0 rfl) ?_
            refine lv_aload_n hx hb dX12_offAt_52 rfl (lv_at hl 2 rfl) ?_
            refine lv_iload_n hx hb dX12_offAt_53 rfl (lv_at hl 3 rfl) ?_
            refine lv_iload hx hb dX12_offAt_54 (lv_at hl 1 rfl) ?_
            have hFc := fr_new hS hA
            refine va_calli (va_runV (As := [.int n, .int x5_1]) (rest := [.int v_9]) ⟨hx, hb, hml, hown, ht⟩ (m_stepOf l G cy _ mo h T v nm f g n x5_1  hv hf hR hL (by omega) (by omega)) (cwV 2 ht (gv k_71 k_72 k_73 k_61 k_70) rfl rfl rfl (by decide +kernel) ⟨Nat.le_of_ble_eq_true rfl, Nat.le_of_ble_eq_true rfl⟩) ⟨En.blind, va_recv hK hP (ci := 12) (q0 := 0) rfl rfl, fun U hU hW => ⟨rfl, En.of hU hW hP hK hD0 hN⟩⟩ rfl rfl hl.1 rfl (lv_room (Nat.le_of_ble_eq_true rfl)) dX12_offAt_56 ⟨Nat.le_of_ble_eq_true rfl, Nat.le_of_ble_eq_true rfl⟩) hS (fun q _ h => hFc q h) hFc (fun r_u_18 u_18 t9 H locs ht9 hvm hw hB hz1 hk1 hS => ?_)
            have hP := fr_keep hP hk1
            have wu_18 := hw
            clear hFc hk1 hz1 hB hw
            refine lv_aload_n hx hb dX12_offAt_59 rfl (lv_at hl 2 rfl) ?_
            refine lv_iload_n hx hb dX12_offAt_60 rfl (lv_at hl 4 rfl) ?_
            refine lv_iload_n hx hb dX12_offAt_61 rfl (lv_at hl 5 rfl) ?_
            refine lv_iload hx hb dX12_offAt_62 (lv_at hl 1 rfl) ?_
            refine lv_iadd hx hb dX12_offAt_64 ?_
            refine lv_topi (fun v_19 ev_19 => ?_)
            have q_20 : v_19.toInt = n3.toInt + x5_1.toInt := ow_add ev_19 (by omega) (by omega)
            have hFc := fr_new hS hA
            refine va_calli (va_runV (As := [.int n2, .int v_19]) (rest := [.int r_u_18, .int v_9]) ⟨hx, hb, hml, hown, ht⟩ (m_stepOf l G cy _ mo h T v nm f g n2 v_19  hv hf hR hL (by omega) (by omega)) (cwV 2 ht (gv k_71 k_72 k_73 k_61 k_70) rfl rfl rfl (by decide +kernel) ⟨Nat.le_of_ble_eq_true rfl, Nat.le_of_ble_eq_true rfl⟩) ⟨En.blind, va_recv hK hP (ci := 12) (q0 := 0) rfl rfl, fun U hU hW => ⟨rfl, En.of hU hW hP hK hD0 hN⟩⟩ rfl rfl hl.1 rfl (lv_room (Nat.le_of_ble_eq_true rfl)) dX12_offAt_65 ⟨Nat.le_of_ble_eq_true rfl, Nat.le_of_ble_eq_true rfl⟩) hS (fun q _ h => hFc q h) hFc (fun r_u_21 u_21 t9 H locs ht9 hvm hw hB hz1 hk1 hS => ?_)
            have hP := fr_keep hP hk1
            have wu_21 := hw
            clear hFc hk1 hz1 hB hw
            refine lv_isub hx hb dX12_offAt_68 ?_
            refine lv_topi (fun v_22 ev_22 => ?_)
            have hFc := fr_new hS hA
            refine va_calli (va_runS (As := [.int v_22]) (rest := [.int v_9]) ⟨hx, hb, hml, hown, ht⟩ (m_away l G cy _  v_22  ) (va_cwS 1 ht (gs k_75 k_76 k_61 k_74) rfl rfl rfl (by decide +kernel) ⟨Nat.le_of_ble_eq_true rfl, Nat.le_of_ble_eq_true rfl⟩) ⟨En.blind, fun U hU hW => ⟨rfl, En.of hU hW (va_P0 (H := _)) hK va_D0 hN⟩⟩ rfl rfl hl.1 rfl (lv_room (Nat.le_of_ble_eq_true rfl)) dX12_offAt_69 ⟨Nat.le_of_ble_eq_true rfl, Nat.le_of_ble_eq_true rfl⟩) hS (fun q _ h => hFc q h) hFc (fun r_u_23 u_23 t9 H locs ht9 hvm hw hB hz1 hk1 hS => ?_)
            have hP := fr_keep hP hk1
            have wu_23 := hw
            clear hFc hk1 hz1 hB hw
            refine lv_iadd hx hb dX12_offAt_72 ?_
            refine lv_topi (fun v_24 ev_24 => ?_)
            refine lv_istore (lv' := [(4, .int v_24), (5, .int x5_1), (0, .ref mo), (1, .int n), (2, .int n2), (3, .int n3)]) hx hb dX12_offAt_73 hl (by decide) rfl (fun ls hl => ?_)
            obtain ⟨v_25, ev_25⟩ : ∃ y : Int32, y = x5_1 + 1 := ⟨_, rfl⟩
            refine lv_iinc (v := v_25) (lv' := [(5, .int v_25), (4, .int v_24), (0, .ref mo), (1, .int n), (2, .int n2), (3, .int n3)]) hx hb dX12_offAt_75 hl (k := 1) rfl (by rw [ev_25]; rfl) (by decide) rfl (fun ls hl => ?_)
            have q_26 : v_25.toInt = x5_1.toInt + 1 := by have := ow_add ev_25 (by omega) (by omega); omega
            refine lv_goto (tgt := 6) hx hb dX12_offAt_78 (by decide) ?_
            refine W.widen (k := 0) (n := 0) (Nat.le_of_ble_eq_true rfl) (Nat.le_of_ble_eq_true rfl) ?_
            exact ih_1 v_25 v_24 _ _ _ (by omega) (by omega) hP hS (lv_sub hl [0, 1, 2, 3, 4, 5] rfl)
        · have q_27 : ¬ r_u_6.toInt = (0 : Int32).toInt := by have := (not_congr (ow_eq _ _)).mp c_7; omega
          refine lv_iconst (v := 1) hx hb dX12_offAt_30 (by decide) ?_
          refine lv_goto (tgt := 35) hx hb dX12_offAt_31 (by decide) ?_
          refine lv_iadd hx hb dX12_offAt_35 ?_
          refine lv_topi (fun v_28 ev_28 => ?_)
          refine lv_istore (lv' := [(4, .int v_28), (5, .int x5_1), (0, .ref mo), (1, .int n), (2, .int n2), (3, .int n3)]) hx hb dX12_offAt_36 hl (by decide) rfl (fun ls hl => ?_)
          refine lv_iload hx hb dX12_offAt_38 (lv_at hl 1 rfl) ?_
          refine lv_iconst (v := 1) hx hb dX12_offAt_40 (by decide) ?_
          refine lv_iadd hx hb dX12_offAt_41 ?_
          refine lv_topi (fun v_29 ev_29 => ?_)
          have q_30 : v_29.toInt = x5_1.toInt + (1 : Int32).toInt := ow_add ev_29 (by omega) (by omega)
          refine lv_aload_n hx hb dX12_offAt_42 rfl (lv_at hl 2 rfl) ?_
          refine lv_iload_n hx hb dX12_offAt_43 rfl (lv_at hl 3 rfl) ?_
          have hFc := fr_new hS hA
          refine va_calli (va_runV (As := [.int n]) (rest := [.int v_29]) ⟨hx, hb, hml, hown, ht⟩ (m_many27 l G cy _ mo h T v nm f g n  hv hf hR hL (by omega)) (cwV 1 ht (gv k_63 k_64 k_65 k_61 k_62) rfl rfl rfl (by decide +kernel) ⟨Nat.le_of_ble_eq_true rfl, Nat.le_of_ble_eq_true rfl⟩) ⟨En.blind, va_recv hK hP (ci := 12) (q0 := 0) rfl rfl, fun U hU hW => ⟨rfl, En.of hU hW hP hK hD0 hN⟩⟩ rfl rfl hl.1 rfl (lv_room (Nat.le_of_ble_eq_true rfl)) dX12_offAt_44 ⟨Nat.le_of_ble_eq_true rfl, Nat.le_of_ble_eq_true rfl⟩) hS (fun q _ h => hFc q h) hFc (fun r_u_31 u_31 t9 H locs ht9 hvm hw hB hz1 hk1 hS => ?_)
          have hP := fr_keep hP hk1
          have wu_31 := hw
          clear hFc hk1 hz1 hB hw
          refine lv_icmp_ge (tgt := 75) hx hb dX12_offAt_47 (by decide) (fun c_32 => ?_) (fun c_32 => ?_)
          · have q_33 : r_u_31.toInt ≤ v_29.toInt := (ow_le _ _).mp c_32
            obtain ⟨v_34, ev_34⟩ : ∃ y : Int32, y = x5_1 + 1 := ⟨_, rfl⟩
            refine lv_iinc (v := v_34) (lv' := [(5, .int v_34), (4, .int v_28), (0, .ref mo), (1, .int n), (2, .int n2), (3, .int n3)]) hx hb dX12_offAt_75 hl (k := 1) rfl (by rw [ev_34]; rfl) (by decide) rfl (fun ls hl => ?_)
            have q_35 : v_34.toInt = x5_1.toInt + 1 := by have := ow_add ev_34 (by omega) (by omega); omega
            refine lv_goto (tgt := 6) hx hb dX12_offAt_78 (by decide) ?_
            refine W.widen (k := 0) (n := 0) (Nat.le_of_ble_eq_true rfl) (Nat.le_of_ble_eq_true rfl) ?_
            exact ih_1 v_34 v_28 _ _ _ (by omega) (by omega) hP hS (lv_sub hl [0, 1, 2, 3, 4, 5] rfl)
          · have q_36 : v_29.toInt < r_u_31.toInt := by have := (not_congr (ow_le _ _)).mp c_32; omega
            refine lv_iload hx hb dX12_offAt_50 (lv_at hl 0 rfl) ?_
            refine lv_aload_n hx hb dX12_offAt_52 rfl (lv_at hl 2 rfl) ?_
            refine lv_iload_n hx hb dX12_offAt_53 rfl (lv_at hl 3 rfl) ?_
            refine lv_iload hx hb dX12_offAt_54 (lv_at hl 1 rfl) ?_
            have hFc := fr_new hS hA
            refine va_calli (va_runV (As := [.int n, .int x5_1]) (rest := [.int v_28]) ⟨hx, hb, hml, hown, ht⟩ (m_stepOf l G cy _ mo h T v nm f g n x5_1  hv hf hR hL (by omega) (by omega)) (cwV 2 ht (gv k_71 k_72 k_73 k_61 k_70) rfl rfl rfl (by decide +kernel) ⟨Nat.le_of_ble_eq_true rfl, Nat.le_of_ble_eq_true rfl⟩) ⟨En.blind, va_recv hK hP (ci := 12) (q0 := 0) rfl rfl, fun U hU hW => ⟨rfl, En.of hU hW hP hK hD0 hN⟩⟩ rfl rfl hl.1 rfl (lv_room (Nat.le_of_ble_eq_true rfl)) dX12_offAt_56 ⟨Nat.le_of_ble_eq_true rfl, Nat.le_of_ble_eq_true rfl⟩) hS (fun q _ h => hFc q h) hFc (fun r_u_37 u_37 t9 H locs ht9 hvm hw hB hz1 hk1 hS => ?_)
            have hP := fr_keep hP hk1
            have wu_37 := hw
            clear hFc hk1 hz1 hB hw
            refine lv_aload_n hx hb dX12_offAt_59 rfl (lv_at hl 2 rfl) ?_
            refine lv_iload_n hx hb dX12_offAt_60 rfl (lv_at hl 4 rfl) ?_
            refine lv_iload_n hx hb dX12_offAt_61 rfl (lv_at hl 5 rfl) ?_
            refine lv_iload hx hb dX12_offAt_62 (lv_at hl 1 rfl) ?_
            refine lv_iadd hx hb dX12_offAt_64 ?_
            refine lv_topi (fun v_38 ev_38 => ?_)
            have q_39 : v_38.toInt = n3.toInt + x5_1.toInt := ow_add ev_38 (by omega) (by omega)
            have hFc := fr_new hS hA
            refine va_calli (va_runV (As := [.int n2, .int v_38]) (rest := [.int r_u_37, .int v_28]) ⟨hx, hb, hml, hown, ht⟩ (m_stepOf l G cy _ mo h T v nm f g n2 v_38  hv hf hR hL (by omega) (by omega)) (cwV 2 ht (gv k_71 k_72 k_73 k_61 k_70) rfl rfl rfl (by decide +kernel) ⟨Nat.le_of_ble_eq_true rfl, Nat.le_of_ble_eq_true rfl⟩) ⟨En.blind, va_recv hK hP (ci := 12) (q0 := 0) rfl rfl, fun U hU hW => ⟨rfl, En.of hU hW hP hK hD0 hN⟩⟩ rfl rfl hl.1 rfl (lv_room (Nat.le_of_ble_eq_true rfl)) dX12_offAt_65 ⟨Nat.le_of_ble_eq_true rfl, Nat.le_of_ble_eq_true rfl⟩) hS (fun q _ h => hFc q h) hFc (fun r_u_40 u_40 t9 H locs ht9 hvm hw hB hz1 hk1 hS => ?_)
            have hP := fr_keep hP hk1
            have wu_40 := hw
            clear hFc hk1 hz1 hB hw
            refine lv_isub hx hb dX12_offAt_68 ?_
            refine lv_topi (fun v_41 ev_41 => ?_)
            have hFc := fr_new hS hA
            refine va_calli (va_runS (As := [.int v_41]) (rest := [.int v_28]) ⟨hx, hb, hml, hown, ht⟩ (m_away l G cy _  v_41  ) (va_cwS 1 ht (gs k_75 k_76 k_61 k_74) rfl rfl rfl (by decide +kernel) ⟨Nat.le_of_ble_eq_true rfl, Nat.le_of_ble_eq_true rfl⟩) ⟨En.blind, fun U hU hW => ⟨rfl, En.of hU hW (va_P0 (H := _)) hK va_D0 hN⟩⟩ rfl rfl hl.1 rfl (lv_room (Nat.le_of_ble_eq_true rfl)) dX12_offAt_69 ⟨Nat.le_of_ble_eq_true rfl, Nat.le_of_ble_eq_true rfl⟩) hS (fun q _ h => hFc q h) hFc (fun r_u_42 u_42 t9 H locs ht9 hvm hw hB hz1 hk1 hS => ?_)
            have hP := fr_keep hP hk1
            have wu_42 := hw
            clear hFc hk1 hz1 hB hw
            refine lv_iadd hx hb dX12_offAt_72 ?_
            refine lv_topi (fun v_43 ev_43 => ?_)
            refine lv_istore (lv' := [(4, .int v_43), (5, .int x5_1), (0, .ref mo), (1, .int n), (2, .int n2), (3, .int n3)]) hx hb dX12_offAt_73 hl (by decide) rfl (fun ls hl => ?_)
            obtain ⟨v_44, ev_44⟩ : ∃ y : Int32, y = x5_1 + 1 := ⟨_, rfl⟩
            refine lv_iinc (v := v_44) (lv' := [(5, .int v_44), (4, .int v_43), (0, .ref mo), (1, .int n), (2, .int n2), (3, .int n3)]) hx hb dX12_offAt_75 hl (k := 1) rfl (by rw [ev_44]; rfl) (by decide) rfl (fun ls hl => ?_)
            have q_45 : v_44.toInt = x5_1.toInt + 1 := by have := ow_add ev_44 (by omega) (by omega); omega
            refine lv_goto (tgt := 6) hx hb dX12_offAt_78 (by decide) ?_
            refine W.widen (k := 0) (n := 0) (Nat.le_of_ble_eq_true rfl) (Nat.le_of_ble_eq_true rfl) ?_
            exact ih_1 v_44 v_43 _ _ _ (by omega) (by omega) hP hS (lv_sub hl [0, 1, 2, 3, 4, 5] rfl)
  exact lp_1 _ (0) (0) _ _ _ (by omega) (Nat.lt_succ_self _) hP hS (lv_sub hl [0, 1, 2, 3, 4, 5] rfl)
set_option maxHeartbeats 4000000 in
set_option maxRecDepth 100000 in
theorem m_placeOf (l : Launch) (G : va_G) (cy : Nat → ClassId) (sz : Nat) (mo : Nat) (h : Nat → Nat) (T : Int) (v : Nat → Int32) (nm : Int64) (f : Nat → Nat → Int32) (g : Nat → Nat → Int64) (n : Int32) (n2 : Int32)  (hv : MIv T v) (hf : MIf f) (hR : RI v f) (hL : WL v f) (h_n : 0 ≤ n.toInt ∧ n.toInt ≤ 27) (h_n2 : 0 ≤ n2.toInt ∧ n2.toInt ≤ 28) : Met l yX12_placeOf (.code yX12_placeOf cX12_placeOf 5 (some .int) :: TBg) ({ frames := 3, cells := 0, slots := 0, locals := 192 }) (va_Pc [.ref mo, .int n, .int n2] (En G cy (WMs cy mo h v nm f g) sz)) (va_Qi (fun (r : Int32) (_ : Unit) => (-1 ≤ r.toInt ∧ r.toInt ≤ 40)) (fun _ _ => True) (va_A [] sz)) 0 0 (va_A [] sz) := by
  refine Met.ofW (cc := cX12_placeOf) (maxL := 5) (ret := (some .int)) (by decide) rfl ?_
  intro p e s m args below meth c s₁ B hml hv9
  obtain ⟨rfl, hsz, hP, hK, hD0, hN⟩ := hv9
  have hx := B.exec
  have hb := B.bytes
  have hr := B.returns
  have hts := atoms_spec (ws := .code yX12_placeOf cX12_placeOf 5 (some .int) :: TBg) B.pre
  have ht : ∀ w ∈ TBg, w.before _ s = true := fun w h => hts w (List.mem_cons_of_mem _ h)
  have hown : s.vm.findClass RX12 = some m.cls := findClass_of_methodNamed B.named
  have hlocks := B.notSynchronized
  subst hsz
  generalize hAe : va_A [] s.heap.size = A at ⊢
  have hA : ∀ q : Nat, s.heap.size ≤ q → A q := fun q h => by rw [← hAe]; exact Or.inr h
  have hS : va_S A s.heap s.heap [] := va_S.rf
  have hl := lv_entry ([.ref mo, .int n, .int n2]) (n := 5) (Nat.le_of_ble_eq_true rfl)
  rw [lg_entry_eq]
  generalize (lg_sl ([.ref mo, .int n, .int n2]) ++ List.replicate (5 - (lg_sl ([.ref mo, .int n, .int n2])).length) Slot.unset).toArray = ls at hl ⊢
  have hl : lv_has ls 5 [(0, .ref mo), (1, .int n), (2, .int n2)] := hl
  have z0 : (-1 : Int32).toInt = -1 := by decide
  have z1 : (0 : Int32).toInt = 0 := by decide
  have z2 : (1 : Int32).toInt = 1 := by decide
  refine lv_iconst (v := (-1)) hx hb dX12_placeOf_0 (by decide) ?_
  refine lv_istore_n (lv' := [(3, .int (-1)), (0, .ref mo), (1, .int n), (2, .int n2)]) hx hb dX12_placeOf_1 rfl hl (by decide) rfl (fun ls hl => ?_)
  refine lv_iconst (v := 0) hx hb dX12_placeOf_2 (by decide) ?_
  refine lv_istore (lv' := [(4, .int 0), (3, .int (-1)), (0, .ref mo), (1, .int n), (2, .int n2)]) hx hb dX12_placeOf_3 hl (by decide) rfl (fun ls hl => ?_)
  refine W.widen (k := 0) (n := 0) (Nat.le_of_ble_eq_true rfl) (Nat.le_of_ble_eq_true rfl) ?_
  have lp_1 : ∀ (N : Nat) (x4_1 : Int32) (x3_1 : Int32) (H : Heap) (locs : List Loc) (ls : Array Slot), (0 ≤ x4_1.toInt ∧ x4_1.toInt ≤ 41) → (-1 ≤ x3_1.toInt ∧ x3_1.toInt ≤ 40) → (41 - x4_1.toInt).toNat < N → va_P G vwCl (WMs cy mo h v nm f g) H → va_S A s.heap H locs → lv_has ls 5 [(4, .int x4_1), (3, .int x3_1), (0, .ref mo), (1, .int n), (2, .int n2)] → W p l e (headSpec (.code yX12_placeOf cX12_placeOf 5 (some .int) :: TBg) ({ frames := 3, cells := 0, slots := 0, locals := 192 })).room s m ([.ref mo, .int n, .int n2] : List Value).toArray below meth c H locs 0 0 (MQ below (va_Qi (fun (r : Int32) (_ : Unit) => (-1 ≤ r.toInt ∧ r.toInt ≤ 40)) (fun _ _ => True) A) ([.ref mo, .int n, .int n2] : List Value).toArray s 0 0 A) (F0 m 5 ls []) := by
    intro N
    induction N with
    | zero => intro x4_1 x3_1 H locs ls qf1_0 qf1_1 hm hP hS hl; exact absurd hm (Nat.not_lt_zero _)
    | succ N ih_1 =>
      intro x4_1 x3_1 H locs ls qf1_0 qf1_1 hm hP hS hl
      refine lv_iload hx hb dX12_placeOf_5 (lv_at hl 0 rfl) ?_
      refine lv_aload_n hx hb dX12_placeOf_7 rfl (lv_at hl 2 rfl) ?_
      refine lv_iload_n hx hb dX12_placeOf_8 rfl (lv_at hl 3 rfl) ?_
      have hFc := fr_new hS hA
      refine va_calli (va_runV (As := [.int n]) (rest := [.int x4_1]) ⟨hx, hb, hml, hown, ht⟩ (m_many27 l G cy _ mo h T v nm f g n  hv hf hR hL (by omega)) (cwV 1 ht (gv k_63 k_64 k_65 k_61 k_62) rfl rfl rfl (by decide +kernel) ⟨Nat.le_of_ble_eq_true rfl, Nat.le_of_ble_eq_true rfl⟩) ⟨En.blind, va_recv hK hP (ci := 12) (q0 := 0) rfl rfl, fun U hU hW => ⟨rfl, En.of hU hW hP hK hD0 hN⟩⟩ rfl rfl hl.1 rfl (lv_room (Nat.le_of_ble_eq_true rfl)) dX12_placeOf_9 ⟨Nat.le_of_ble_eq_true rfl, Nat.le_of_ble_eq_true rfl⟩) hS (fun q _ h => hFc q h) hFc (fun r_u_2 u_2 t9 H locs ht9 hvm hw hB hz1 hk1 hS => ?_)
      have hP := fr_keep hP hk1
      have wu_2 := hw
      clear hFc hk1 hz1 hB hw
      refine lv_iadd hx hb dX12_placeOf_12 ?_
      refine lv_topi (fun v_3 ev_3 => ?_)
      have q_4 : v_3.toInt = x4_1.toInt + r_u_2.toInt := ow_add ev_3 (by omega) (by omega)
      refine lv_aload_n hx hb dX12_placeOf_13 rfl (lv_at hl 2 rfl) ?_
      refine lv_iload_n hx hb dX12_placeOf_14 rfl (lv_at hl 4 rfl) ?_
      have hFc := fr_new hS hA
      refine va_calli (va_runV (As := [.int n2]) (rest := [.int v_3]) ⟨hx, hb, hml, hown, ht⟩ (m_many28 l G cy _ mo h T v nm f g n2  hv hf hR hL (by omega)) (cwV 1 ht (gv k_63 k_64 k_65 k_61 k_62) rfl rfl rfl (by decide +kernel) ⟨Nat.le_of_ble_eq_true rfl, Nat.le_of_ble_eq_true rfl⟩) ⟨En.blind, va_recv hK hP (ci := 12) (q0 := 0) rfl rfl, fun U hU hW => ⟨rfl, En.of hU hW hP hK hD0 hN⟩⟩ rfl rfl hl.1 rfl (lv_room (Nat.le_of_ble_eq_true rfl)) dX12_placeOf_15 ⟨Nat.le_of_ble_eq_true rfl, Nat.le_of_ble_eq_true rfl⟩) hS (fun q _ h => hFc q h) hFc (fun r_u_5 u_5 t9 H locs ht9 hvm hw hB hz1 hk1 hS => ?_)
      have hP := fr_keep hP hk1
      have wu_5 := hw
      clear hFc hk1 hz1 hB hw
      refine lv_icmp_gt (tgt := 52) hx hb dX12_placeOf_18 (by decide) (fun c_6 => ?_) (fun c_6 => ?_)
      · have q_7 : r_u_5.toInt < v_3.toInt := (ow_lt _ _).mp c_6
        refine lv_iload_n hx hb dX12_placeOf_52 rfl (lv_at hl 1 rfl) ?_
        refine W.widen (k := 0) (n := 0) (Nat.le_of_ble_eq_true rfl) (Nat.le_of_ble_eq_true rfl) ?_
        exact W.iret (v := x3_1) hx hb hr (fun t ht9 hW => ⟨⟨x3_1, (), rfl, (by omega), trivial⟩, hS.F ht9⟩) hS.2.2 dX12_placeOf_53
      · have q_8 : v_3.toInt ≤ r_u_5.toInt := by have := (not_congr (ow_lt _ _)).mp c_6; omega
        refine lv_iload_n hx hb dX12_placeOf_21 rfl (lv_at hl 1 rfl) ?_
        refine lv_if_lt (tgt := 43) hx hb dX12_placeOf_22 (by decide) (fun c_9 => ?_) (fun c_9 => ?_)
        · have q_10 : x3_1.toInt < (0 : Int32).toInt := (ow_lt _ _).mp c_9
          refine lv_iload hx hb dX12_placeOf_43 (lv_at hl 0 rfl) ?_
          refine lv_istore_n (lv' := [(3, .int x4_1), (4, .int x4_1), (0, .ref mo), (1, .int n), (2, .int n2)]) hx hb dX12_placeOf_45 rfl hl (by decide) rfl (fun ls hl => ?_)
          obtain ⟨v_11, ev_11⟩ : ∃ y : Int32, y = x4_1 + 1 := ⟨_, rfl⟩
          refine lv_iinc (v := v_11) (lv' := [(4, .int v_11), (3, .int x4_1), (0, .ref mo), (1, .int n), (2, .int n2)]) hx hb dX12_placeOf_46 hl (k := 1) rfl (by rw [ev_11]; rfl) (by decide) rfl (fun ls hl => ?_)
          have q_12 : v_11.toInt = x4_1.toInt + 1 := by have := ow_add ev_11 (by omega) (by omega); omega
          refine lv_goto (tgt := 5) hx hb dX12_placeOf_49 (by decide) ?_
          refine W.widen (k := 0) (n := 0) (Nat.le_of_ble_eq_true rfl) (Nat.le_of_ble_eq_true rfl) ?_
          exact ih_1 v_11 x4_1 _ _ _ (by omega) (by omega) (by omega) hP hS (lv_sub hl [0, 1, 2, 3, 4] rfl)
        · have q_13 : (0 : Int32).toInt ≤ x3_1.toInt := by have := (not_congr (ow_lt _ _)).mp c_9; omega
          refine lv_aload_n hx hb dX12_placeOf_25 rfl (lv_at hl 2 rfl) ?_
          refine lv_iload_n hx hb dX12_placeOf_26 rfl (lv_at hl 3 rfl) ?_
          refine lv_iload_n hx hb dX12_placeOf_27 rfl (lv_at hl 4 rfl) ?_
          refine lv_iload hx hb dX12_placeOf_28 (lv_at hl 0 rfl) ?_
          have hFc := fr_new hS hA
          refine va_calli (va_runV (As := [.int n, .int n2, .int x4_1]) (rest := []) ⟨hx, hb, hml, hown, ht⟩ (m_offAt l G cy _ mo h T v nm f g n n2 x4_1  hv hf hR hL (by omega) (by omega) (by omega)) (cwV 3 ht (gv k_78 k_79 k_80 k_61 k_77) rfl rfl rfl (by decide +kernel) ⟨Nat.le_of_ble_eq_true rfl, Nat.le_of_ble_eq_true rfl⟩) ⟨En.blind, va_recv hK hP (ci := 12) (q0 := 0) rfl rfl, fun U hU hW => ⟨rfl, En.of hU hW hP hK hD0 hN⟩⟩ rfl rfl hl.1 rfl (lv_room (Nat.le_of_ble_eq_true rfl)) dX12_placeOf_30 ⟨Nat.le_of_ble_eq_true rfl, Nat.le_of_ble_eq_true rfl⟩) hS (fun q _ h => hFc q h) hFc (fun r_u_14 u_14 t9 H locs ht9 hvm hw hB hz1 hk1 hS => ?_)
          have hP := fr_keep hP hk1
          have wu_14 := hw
          clear hFc hk1 hz1 hB hw
          refine lv_aload_n hx hb dX12_placeOf_33 rfl (lv_at hl 2 rfl) ?_
          refine lv_iload_n hx hb dX12_placeOf_34 rfl (lv_at hl 3 rfl) ?_
          refine lv_iload_n hx hb dX12_placeOf_35 rfl (lv_at hl 4 rfl) ?_
          refine lv_iload_n hx hb dX12_placeOf_36 rfl (lv_at hl 1 rfl) ?_
          have hFc := fr_new hS hA
          refine va_calli (va_runV (As := [.int n, .int n2, .int x3_1]) (rest := [.int r_u_14]) ⟨hx, hb, hml, hown, ht⟩ (m_offAt l G cy _ mo h T v nm f g n n2 x3_1  hv hf hR hL (by omega) (by omega) (by omega)) (cwV 3 ht (gv k_78 k_79 k_80 k_61 k_77) rfl rfl rfl (by decide +kernel) ⟨Nat.le_of_ble_eq_true rfl, Nat.le_of_ble_eq_true rfl⟩) ⟨En.blind, va_recv hK hP (ci := 12) (q0 := 0) rfl rfl, fun U hU hW => ⟨rfl, En.of hU hW hP hK hD0 hN⟩⟩ rfl rfl hl.1 rfl (lv_room (Nat.le_of_ble_eq_true rfl)) dX12_placeOf_37 ⟨Nat.le_of_ble_eq_true rfl, Nat.le_of_ble_eq_true rfl⟩) hS (fun q _ h => hFc q h) hFc (fun r_u_15 u_15 t9 H locs ht9 hvm hw hB hz1 hk1 hS => ?_)
          have hP := fr_keep hP hk1
          have wu_15 := hw
          clear hFc hk1 hz1 hB hw
          refine lv_icmp_ge (tgt := 46) hx hb dX12_placeOf_40 (by decide) (fun c_16 => ?_) (fun c_16 => ?_)
          · have q_17 : r_u_15.toInt ≤ r_u_14.toInt := (ow_le _ _).mp c_16
            obtain ⟨v_18, ev_18⟩ : ∃ y : Int32, y = x4_1 + 1 := ⟨_, rfl⟩
            refine lv_iinc (v := v_18) (lv' := [(4, .int v_18), (3, .int x3_1), (0, .ref mo), (1, .int n), (2, .int n2)]) hx hb dX12_placeOf_46 hl (k := 0) rfl (by rw [ev_18]; rfl) (by decide) rfl (fun ls hl => ?_)
            have q_19 : v_18.toInt = x4_1.toInt + 1 := by have := ow_add ev_18 (by omega) (by omega); omega
            refine lv_goto (tgt := 5) hx hb dX12_placeOf_49 (by decide) ?_
            refine W.widen (k := 0) (n := 0) (Nat.le_of_ble_eq_true rfl) (Nat.le_of_ble_eq_true rfl) ?_
            exact ih_1 v_18 x3_1 _ _ _ (by omega) (by omega) (by omega) hP hS (lv_sub hl [0, 1, 2, 3, 4] rfl)
          · have q_20 : r_u_14.toInt < r_u_15.toInt := by have := (not_congr (ow_le _ _)).mp c_16; omega
            refine lv_iload hx hb dX12_placeOf_43 (lv_at hl 0 rfl) ?_
            refine lv_istore_n (lv' := [(3, .int x4_1), (4, .int x4_1), (0, .ref mo), (1, .int n), (2, .int n2)]) hx hb dX12_placeOf_45 rfl hl (by decide) rfl (fun ls hl => ?_)
            obtain ⟨v_21, ev_21⟩ : ∃ y : Int32, y = x4_1 + 1 := ⟨_, rfl⟩
            refine lv_iinc (v := v_21) (lv' := [(4, .int v_21), (3, .int x4_1), (0, .ref mo), (1, .int n), (2, .int n2)]) hx hb dX12_placeOf_46 hl (k := 1) rfl (by rw [ev_21]; rfl) (by decide) rfl (fun ls hl => ?_)
            have q_22 : v_21.toInt = x4_1.toInt + 1 := by have := ow_add ev_21 (by omega) (by omega); omega
            refine lv_goto (tgt := 5) hx hb dX12_placeOf_49 (by decide) ?_
            refine W.widen (k := 0) (n := 0) (Nat.le_of_ble_eq_true rfl) (Nat.le_of_ble_eq_true rfl) ?_
            exact ih_1 v_21 x4_1 _ _ _ (by omega) (by omega) (by omega) hP hS (lv_sub hl [0, 1, 2, 3, 4] rfl)
  exact lp_1 _ (0) ((-1)) _ _ _ (by omega) (by omega) (Nat.lt_succ_self _) hP hS (lv_sub hl [0, 1, 2, 3, 4] rfl)
set_option maxHeartbeats 4000000 in
set_option maxRecDepth 100000 in
theorem m_firstOff (l : Launch) (G : va_G) (cy : Nat → ClassId) (sz : Nat) (mo : Nat) (h : Nat → Nat) (T : Int) (v : Nat → Int32) (nm : Int64) (f : Nat → Nat → Int32) (g : Nat → Nat → Int64) (n : Int32) (n2 : Int32) (n3 : Int32)  (hv : MIv T v) (hf : MIf f) (hR : RI v f) (hL : WL v f) (h_n : 0 ≤ n.toInt ∧ n.toInt ≤ 27) (h_n2 : 0 ≤ n2.toInt ∧ n2.toInt ≤ 28) (h_n3 : 0 ≤ n3.toInt ∧ n3.toInt ≤ 40) : Met l yX12_firstOff (.code yX12_firstOff cX12_firstOff 5 (some .int) :: TBg) ({ frames := 2, cells := 0, slots := 0, locals := 128 }) (va_Pc [.ref mo, .int n, .int n2, .int n3] (En G cy (WMs cy mo h v nm f g) sz)) (va_Qi (fun (r : Int32) (_ : Unit) => True) (fun _ _ => True) (va_A [] sz)) 0 0 (va_A [] sz) := by
  refine Met.ofW (cc := cX12_firstOff) (maxL := 5) (ret := (some .int)) (by decide) rfl ?_
  intro p e s m args below meth c s₁ B hml hv9
  obtain ⟨rfl, hsz, hP, hK, hD0, hN⟩ := hv9
  have hx := B.exec
  have hb := B.bytes
  have hr := B.returns
  have hts := atoms_spec (ws := .code yX12_firstOff cX12_firstOff 5 (some .int) :: TBg) B.pre
  have ht : ∀ w ∈ TBg, w.before _ s = true := fun w h => hts w (List.mem_cons_of_mem _ h)
  have hown : s.vm.findClass RX12 = some m.cls := findClass_of_methodNamed B.named
  have hlocks := B.notSynchronized
  subst hsz
  generalize hAe : va_A [] s.heap.size = A at ⊢
  have hA : ∀ q : Nat, s.heap.size ≤ q → A q := fun q h => by rw [← hAe]; exact Or.inr h
  have hS : va_S A s.heap s.heap [] := va_S.rf
  have hl := lv_entry ([.ref mo, .int n, .int n2, .int n3]) (n := 5) (Nat.le_of_ble_eq_true rfl)
  rw [lg_entry_eq]
  generalize (lg_sl ([.ref mo, .int n, .int n2, .int n3]) ++ List.replicate (5 - (lg_sl ([.ref mo, .int n, .int n2, .int n3])).length) Slot.unset).toArray = ls at hl ⊢
  have hl : lv_has ls 5 [(0, .ref mo), (1, .int n), (2, .int n2), (3, .int n3)] := hl
  have z0 : (-1 : Int32).toInt = -1 := by decide
  have z1 : (0 : Int32).toInt = 0 := by decide
  have z2 : (1 : Int32).toInt = 1 := by decide
  refine lv_iconst (v := 1) hx hb dX12_firstOff_0 (by decide) ?_
  refine lv_istore (lv' := [(4, .int 1), (0, .ref mo), (1, .int n), (2, .int n2), (3, .int n3)]) hx hb dX12_firstOff_1 hl (by decide) rfl (fun ls hl => ?_)
  refine W.widen (k := 0) (n := 0) (Nat.le_of_ble_eq_true rfl) (Nat.le_of_ble_eq_true rfl) ?_
  have lp_1 : ∀ (N : Nat) (x4_1 : Int32) (H : Heap) (locs : List Loc) (ls : Array Slot), (1 ≤ x4_1.toInt ∧ x4_1.toInt ≤ 12) → (12 - x4_1.toInt).toNat < N → va_P G vwCl (WMs cy mo h v nm f g) H → va_S A s.heap H locs → lv_has ls 5 [(4, .int x4_1), (0, .ref mo), (1, .int n), (2, .int n2), (3, .int n3)] → W p l e (headSpec (.code yX12_firstOff cX12_firstOff 5 (some .int) :: TBg) ({ frames := 2, cells := 0, slots := 0, locals := 128 })).room s m ([.ref mo, .int n, .int n2, .int n3] : List Value).toArray below meth c H locs 0 0 (MQ below (va_Qi (fun (r : Int32) (_ : Unit) => True) (fun _ _ => True) A) ([.ref mo, .int n, .int n2, .int n3] : List Value).toArray s 0 0 A) (F0 m 3 ls []) := by
    intro N
    induction N with
    | zero => intro x4_1 H locs ls qf1_0 hm hP hS hl; exact absurd hm (Nat.not_lt_zero _)
    | succ N ih_1 =>
      intro x4_1 H locs ls qf1_0 hm hP hS hl
      refine lv_iload hx hb dX12_firstOff_3 (lv_at hl 0 rfl) ?_
      refine lv_aload_n hx hb dX12_firstOff_5 rfl (lv_at hl 1 rfl) ?_
      refine lv_iload_n hx hb dX12_firstOff_6 rfl (lv_at hl 2 rfl) ?_
      have hFc := fr_new hS hA
      refine va_calli (va_runV (As := [.int n]) (rest := [.int x4_1]) ⟨hx, hb, hml, hown, ht⟩ (m_many27 l G cy _ mo h T v nm f g n  hv hf hR hL (by omega)) (cwV 1 ht (gv k_63 k_64 k_65 k_61 k_62) rfl rfl rfl (by decide +kernel) ⟨Nat.le_of_ble_eq_true rfl, Nat.le_of_ble_eq_true rfl⟩) ⟨En.blind, va_recv hK hP (ci := 12) (q0 := 0) rfl rfl, fun U hU hW => ⟨rfl, En.of hU hW hP hK hD0 hN⟩⟩ rfl rfl hl.1 rfl (lv_room (Nat.le_of_ble_eq_true rfl)) dX12_firstOff_7 ⟨Nat.le_of_ble_eq_true rfl, Nat.le_of_ble_eq_true rfl⟩) hS (fun q _ h => hFc q h) hFc (fun r_u_2 u_2 t9 H locs ht9 hvm hw hB hz1 hk1 hS => ?_)
      have hP := fr_keep hP hk1
      have wu_2 := hw
      clear hFc hk1 hz1 hB hw
      refine lv_icmp_ge (tgt := 57) hx hb dX12_firstOff_10 (by decide) (fun c_3 => ?_) (fun c_3 => ?_)
      · have q_4 : r_u_2.toInt ≤ x4_1.toInt := (ow_le _ _).mp c_3
        refine lv_iconst (v := (-1)) hx hb dX12_firstOff_57 (by decide) ?_
        refine W.widen (k := 0) (n := 0) (Nat.le_of_ble_eq_true rfl) (Nat.le_of_ble_eq_true rfl) ?_
        exact W.iret (v := (-1)) hx hb hr (fun t ht9 hW => ⟨⟨(-1), (), rfl, trivial, trivial⟩, hS.F ht9⟩) hS.2.2 dX12_firstOff_58
      · have q_5 : x4_1.toInt < r_u_2.toInt := by have := (not_congr (ow_le _ _)).mp c_3; omega
        refine lv_aload_n hx hb dX12_firstOff_13 rfl (lv_at hl 1 rfl) ?_
        refine lv_iload_n hx hb dX12_firstOff_14 rfl (lv_at hl 2 rfl) ?_
        refine lv_iload hx hb dX12_firstOff_15 (lv_at hl 0 rfl) ?_
        refine lv_iconst (v := 1) hx hb dX12_firstOff_17 (by decide) ?_
        refine lv_isub hx hb dX12_firstOff_18 ?_
        refine lv_topi (fun v_6 ev_6 => ?_)
        have q_7 : v_6.toInt = x4_1.toInt - (1 : Int32).toInt := ow_sub ev_6 (by omega) (by omega)
        have hFc := fr_new hS hA
        refine va_calli (va_runV (As := [.int n, .int v_6]) (rest := []) ⟨hx, hb, hml, hown, ht⟩ (m_stepOf l G cy _ mo h T v nm f g n v_6  hv hf hR hL (by omega) (by omega)) (cwV 2 ht (gv k_71 k_72 k_73 k_61 k_70) rfl rfl rfl (by decide +kernel) ⟨Nat.le_of_ble_eq_true rfl, Nat.le_of_ble_eq_true rfl⟩) ⟨En.blind, va_recv hK hP (ci := 12) (q0 := 0) rfl rfl, fun U hU hW => ⟨rfl, En.of hU hW hP hK hD0 hN⟩⟩ rfl rfl hl.1 rfl (lv_room (Nat.le_of_ble_eq_true rfl)) dX12_firstOff_19 ⟨Nat.le_of_ble_eq_true rfl, Nat.le_of_ble_eq_true rfl⟩) hS (fun q _ h => hFc q h) hFc (fun r_u_8 u_8 t9 H locs ht9 hvm hw hB hz1 hk1 hS => ?_)
        have hP := fr_keep hP hk1
        have wu_8 := hw
        clear hFc hk1 hz1 hB hw
        refine lv_aload_n hx hb dX12_firstOff_22 rfl (lv_at hl 1 rfl) ?_
        refine lv_iload_n hx hb dX12_firstOff_23 rfl (lv_at hl 3 rfl) ?_
        refine lv_iload_n hx hb dX12_firstOff_24 rfl (lv_at hl 4 rfl) ?_
        refine lv_iload hx hb dX12_firstOff_25 (lv_at hl 0 rfl) ?_
        refine lv_iadd hx hb dX12_firstOff_27 ?_
        refine lv_topi (fun v_9 ev_9 => ?_)
        have q_10 : v_9.toInt = n3.toInt + x4_1.toInt := ow_add ev_9 (by omega) (by omega)
        refine lv_iconst (v := 1) hx hb dX12_firstOff_28 (by decide) ?_
        refine lv_isub hx hb dX12_firstOff_29 ?_
        refine lv_topi (fun v_11 ev_11 => ?_)
        have q_12 : v_11.toInt = v_9.toInt - (1 : Int32).toInt := ow_sub ev_11 (by omega) (by omega)
        have hFc := fr_new hS hA
        refine va_calli (va_runV (As := [.int n2, .int v_11]) (rest := [.int r_u_8]) ⟨hx, hb, hml, hown, ht⟩ (m_stepOf l G cy _ mo h T v nm f g n2 v_11  hv hf hR hL (by omega) (by omega)) (cwV 2 ht (gv k_71 k_72 k_73 k_61 k_70) rfl rfl rfl (by decide +kernel) ⟨Nat.le_of_ble_eq_true rfl, Nat.le_of_ble_eq_true rfl⟩) ⟨En.blind, va_recv hK hP (ci := 12) (q0 := 0) rfl rfl, fun U hU hW => ⟨rfl, En.of hU hW hP hK hD0 hN⟩⟩ rfl rfl hl.1 rfl (lv_room (Nat.le_of_ble_eq_true rfl)) dX12_firstOff_30 ⟨Nat.le_of_ble_eq_true rfl, Nat.le_of_ble_eq_true rfl⟩) hS (fun q _ h => hFc q h) hFc (fun r_u_13 u_13 t9 H locs ht9 hvm hw hB hz1 hk1 hS => ?_)
        have hP := fr_keep hP hk1
        have wu_13 := hw
        clear hFc hk1 hz1 hB hw
        refine lv_icmp_ne (tgt := 48) hx hb dX12_firstOff_33 (by decide) (fun c_14 => ?_) (fun c_14 => ?_)
        · have q_15 : ¬ r_u_8.toInt = r_u_13.toInt := by have := (not_congr (ow_eq _ _)).mp c_14; omega
          refine lv_iload hx hb dX12_firstOff_48 (lv_at hl 0 rfl) ?_
          refine W.widen (k := 0) (n := 0) (Nat.le_of_ble_eq_true rfl) (Nat.le_of_ble_eq_true rfl) ?_
          exact W.iret (v := x4_1) hx hb hr (fun t ht9 hW => ⟨⟨x4_1, (), rfl, trivial, trivial⟩, hS.F ht9⟩) hS.2.2 dX12_firstOff_50
        · have q_16 : r_u_8.toInt = r_u_13.toInt := (ow_eq _ _).mp c_14
          refine lv_aload_n hx hb dX12_firstOff_36 rfl (lv_at hl 1 rfl) ?_
          refine lv_iload_n hx hb dX12_firstOff_37 rfl (lv_at hl 2 rfl) ?_
          refine lv_iload_n hx hb dX12_firstOff_38 rfl (lv_at hl 3 rfl) ?_
          refine lv_iload_n hx hb dX12_firstOff_39 rfl (lv_at hl 4 rfl) ?_
          refine lv_iload hx hb dX12_firstOff_40 (lv_at hl 0 rfl) ?_
          have hFc := fr_new hS hA
          refine va_calli (va_runV (As := [.int n, .int n2, .int n3, .int x4_1]) (rest := []) ⟨hx, hb, hml, hown, ht⟩ (m_isOut l G cy _ mo h T v nm f g n n2 n3 x4_1  hv hf hR hL (by omega) (by omega) (by omega) (by omega)) (cwV 4 ht (gv k_67 k_68 k_69 k_61 k_66) rfl rfl rfl (by decide +kernel) ⟨Nat.le_of_ble_eq_true rfl, Nat.le_of_ble_eq_true rfl⟩) ⟨En.blind, va_recv hK hP (ci := 12) (q0 := 0) rfl rfl, fun U hU hW => ⟨rfl, En.of hU hW hP hK hD0 hN⟩⟩ rfl rfl hl.1 rfl (lv_room (Nat.le_of_ble_eq_true rfl)) dX12_firstOff_42 ⟨Nat.le_of_ble_eq_true rfl, Nat.le_of_ble_eq_true rfl⟩) hS (fun q _ h => hFc q h) hFc (fun r_u_17 u_17 t9 H locs ht9 hvm hw hB hz1 hk1 hS => ?_)
          have hP := fr_keep hP hk1
          have wu_17 := hw
          clear hFc hk1 hz1 hB hw
          refine lv_if_eq (tgt := 51) hx hb dX12_firstOff_45 (by decide) (fun c_18 => ?_) (fun c_18 => ?_)
          · have q_19 : r_u_17.toInt = (0 : Int32).toInt := (ow_eq _ _).mp c_18
            obtain ⟨v_20, ev_20⟩ : ∃ y : Int32, y = x4_1 + 1 := ⟨_, rfl⟩
            refine lv_iinc (v := v_20) (lv' := [(4, .int v_20), (0, .ref mo), (1, .int n), (2, .int n2), (3, .int n3)]) hx hb dX12_firstOff_51 hl (k := 0) rfl (by rw [ev_20]; rfl) (by decide) rfl (fun ls hl => ?_)
            have q_21 : v_20.toInt = x4_1.toInt + 1 := by have := ow_add ev_20 (by omega) (by omega); omega
            refine lv_goto (tgt := 3) hx hb dX12_firstOff_54 (by decide) ?_
            refine W.widen (k := 0) (n := 0) (Nat.le_of_ble_eq_true rfl) (Nat.le_of_ble_eq_true rfl) ?_
            exact ih_1 v_20 _ _ _ (by omega) (by omega) hP hS (lv_sub hl [0, 1, 2, 3, 4] rfl)
          · have q_22 : ¬ r_u_17.toInt = (0 : Int32).toInt := by have := (not_congr (ow_eq _ _)).mp c_18; omega
            refine lv_iload hx hb dX12_firstOff_48 (lv_at hl 0 rfl) ?_
            refine W.widen (k := 0) (n := 0) (Nat.le_of_ble_eq_true rfl) (Nat.le_of_ble_eq_true rfl) ?_
            exact W.iret (v := x4_1) hx hb hr (fun t ht9 hW => ⟨⟨x4_1, (), rfl, trivial, trivial⟩, hS.F ht9⟩) hS.2.2 dX12_firstOff_50
  exact lp_1 _ (1) _ _ _ (by omega) (Nat.lt_succ_self _) hP hS (lv_sub hl [0, 1, 2, 3, 4] rfl)
set_option maxHeartbeats 4000000 in
set_option maxRecDepth 100000 in
theorem m_inWhat (l : Launch) (G : va_G) (cy : Nat → ClassId) (sz : Nat) (mo : Nat) (h : Nat → Nat) (T : Int) (v : Nat → Int32) (nm : Int64) (f : Nat → Nat → Int32) (g : Nat → Nat → Int64) (n : Int32) (n2 : Int32) (n3 : Int32)  (hv : MIv T v) (hf : MIf f) (hR : RI v f) (hL : WL v f) (h_n : 0 ≤ n.toInt ∧ n.toInt ≤ 27) (h_n2 : 0 ≤ n2.toInt ∧ n2.toInt ≤ 28) : Met l yX12_inWhat (.code yX12_inWhat cX12_inWhat 5 (some .int) :: TBg) ({ frames := 4, cells := 0, slots := 0, locals := 256 }) (va_Pc [.ref mo, .int n, .int n2, .int n3] (En G cy (WMs cy mo h v nm f g) sz)) (va_Qi (fun (r : Int32) (_ : Unit) => True) (fun _ _ => True) (va_A [] sz)) 0 0 (va_A [] sz) := by
  refine Met.ofW (cc := cX12_inWhat) (maxL := 5) (ret := (some .int)) (by decide) rfl ?_
  intro p e s m args below meth c s₁ B hml hv9
  obtain ⟨rfl, hsz, hP, hK, hD0, hN⟩ := hv9
  have hx := B.exec
  have hb := B.bytes
  have hr := B.returns
  have hts := atoms_spec (ws := .code yX12_inWhat cX12_inWhat 5 (some .int) :: TBg) B.pre
  have ht : ∀ w ∈ TBg, w.before _ s = true := fun w h => hts w (List.mem_cons_of_mem _ h)
  have hown : s.vm.findClass RX12 = some m.cls := findClass_of_methodNamed B.named
  have hlocks := B.notSynchronized
  subst hsz
  generalize hAe : va_A [] s.heap.size = A at ⊢
  have hA : ∀ q : Nat, s.heap.size ≤ q → A q := fun q h => by rw [← hAe]; exact Or.inr h
  have hS : va_S A s.heap s.heap [] := va_S.rf
  have hl := lv_entry ([.ref mo, .int n, .int n2, .int n3]) (n := 5) (Nat.le_of_ble_eq_true rfl)
  rw [lg_entry_eq]
  generalize (lg_sl ([.ref mo, .int n, .int n2, .int n3]) ++ List.replicate (5 - (lg_sl ([.ref mo, .int n, .int n2, .int n3])).length) Slot.unset).toArray = ls at hl ⊢
  have hl : lv_has ls 5 [(0, .ref mo), (1, .int n), (2, .int n2), (3, .int n3)] := hl
  have z0 : (-1 : Int32).toInt = -1 := by decide
  have z1 : (0 : Int32).toInt = 0 := by decide
  have z2 : (1 : Int32).toInt = 1 := by decide
  have z3 : (2 : Int32).toInt = 2 := by decide
  refine lv_aload_n hx hb dX12_inWhat_0 rfl (lv_at hl 0 rfl) ?_
  refine lv_iload_n hx hb dX12_inWhat_1 rfl (lv_at hl 1 rfl) ?_
  refine lv_iload_n hx hb dX12_inWhat_2 rfl (lv_at hl 2 rfl) ?_
  have hFc := fr_new hS hA
  refine va_calli (va_runV (As := [.int n, .int n2]) (rest := []) ⟨hx, hb, hml, hown, ht⟩ (m_placeOf l G cy _ mo h T v nm f g n n2  hv hf hR hL (by omega) (by omega)) (cwV 2 ht (gv k_82 k_83 k_84 k_61 k_81) rfl rfl rfl (by decide +kernel) ⟨Nat.le_of_ble_eq_true rfl, Nat.le_of_ble_eq_true rfl⟩) ⟨En.blind, va_recv hK hP (ci := 12) (q0 := 0) rfl rfl, fun U hU hW => ⟨rfl, En.of hU hW hP hK hD0 hN⟩⟩ rfl rfl hl.1 rfl (lv_room (Nat.le_of_ble_eq_true rfl)) dX12_inWhat_3 ⟨Nat.le_of_ble_eq_true rfl, Nat.le_of_ble_eq_true rfl⟩) hS (fun q _ h => hFc q h) hFc (fun r_u_1 u_1 t9 H locs ht9 hvm hw hB hz1 hk1 hS => ?_)
  have hP := fr_keep hP hk1
  have wu_1 := hw
  clear hFc hk1 hz1 hB hw
  refine lv_istore (lv' := [(4, .int r_u_1), (0, .ref mo), (1, .int n), (2, .int n2), (3, .int n3)]) hx hb dX12_inWhat_6 hl (by decide) rfl (fun ls hl => ?_)
  refine lv_iload hx hb dX12_inWhat_8 (lv_at hl 0 rfl) ?_
  refine lv_if_lt (tgt := 22) hx hb dX12_inWhat_10 (by decide) (fun c_2 => ?_) (fun c_2 => ?_)
  · have q_3 : r_u_1.toInt < (0 : Int32).toInt := (ow_lt _ _).mp c_2
    refine lv_iconst (v := (-1)) hx hb dX12_inWhat_22 (by decide) ?_
    refine W.widen (k := 0) (n := 0) (Nat.le_of_ble_eq_true rfl) (Nat.le_of_ble_eq_true rfl) ?_
    exact W.iret (v := (-1)) hx hb hr (fun t ht9 hW => ⟨⟨(-1), (), rfl, trivial, trivial⟩, hS.F ht9⟩) hS.2.2 dX12_inWhat_23
  · have q_4 : (0 : Int32).toInt ≤ r_u_1.toInt := by have := (not_congr (ow_lt _ _)).mp c_2; omega
    refine lv_iload_n hx hb dX12_inWhat_13 rfl (lv_at hl 4 rfl) ?_
    refine lv_iconst (v := 0) hx hb dX12_inWhat_14 (by decide) ?_
    refine lv_iconst (v := 2) hx hb dX12_inWhat_15 (by decide) ?_
    have hFc := fr_new hS hA
    refine va_calli (va_runS (As := [.int n3, .int 0, .int 2]) (rest := []) ⟨hx, hb, hml, hown, ht⟩ (m_isIn l G cy _  n3 (0) (2)  ) (va_cwS 3 ht (gs k_59 k_60 k_61 k_58) rfl rfl rfl (by decide +kernel) ⟨Nat.le_of_ble_eq_true rfl, Nat.le_of_ble_eq_true rfl⟩) ⟨En.blind, fun U hU hW => ⟨rfl, En.of hU hW (va_P0 (H := _)) hK va_D0 hN⟩⟩ rfl rfl hl.1 rfl (lv_room (Nat.le_of_ble_eq_true rfl)) dX12_inWhat_16 ⟨Nat.le_of_ble_eq_true rfl, Nat.le_of_ble_eq_true rfl⟩) hS (fun q _ h => hFc q h) hFc (fun r_u_5 u_5 t9 H locs ht9 hvm hw hB hz1 hk1 hS => ?_)
    have hP := fr_keep hP hk1
    have wu_5 := hw
    clear hFc hk1 hz1 hB hw
    refine lv_if_ne (tgt := 24) hx hb dX12_inWhat_19 (by decide) (fun c_6 => ?_) (fun c_6 => ?_)
    · have q_7 : ¬ r_u_5.toInt = (0 : Int32).toInt := by have := (not_congr (ow_eq _ _)).mp c_6; omega
      refine lv_iload_n hx hb dX12_inWhat_24 rfl (lv_at hl 4 rfl) ?_
      refine lv_if_ne (tgt := 33) hx hb dX12_inWhat_25 (by decide) (fun c_8 => ?_) (fun c_8 => ?_)
      · have q_9 : ¬ n3.toInt = (0 : Int32).toInt := by have := (not_congr (ow_eq _ _)).mp c_8; omega
        refine lv_iload_n hx hb dX12_inWhat_33 rfl (lv_at hl 4 rfl) ?_
        refine lv_iconst (v := 1) hx hb dX12_inWhat_34 (by decide) ?_
        refine lv_icmp_ne (tgt := 49) hx hb dX12_inWhat_35 (by decide) (fun c_10 => ?_) (fun c_10 => ?_)
        · have q_11 : ¬ n3.toInt = (1 : Int32).toInt := by have := (not_congr (ow_eq _ _)).mp c_10; omega
          refine lv_aload_n hx hb dX12_inWhat_49 rfl (lv_at hl 1 rfl) ?_
          refine lv_iload_n hx hb dX12_inWhat_50 rfl (lv_at hl 2 rfl) ?_
          refine lv_iload_n hx hb dX12_inWhat_51 rfl (lv_at hl 3 rfl) ?_
          refine lv_iload hx hb dX12_inWhat_52 (lv_at hl 0 rfl) ?_
          have hFc := fr_new hS hA
          refine va_calli (va_runV (As := [.int n, .int n2, .int r_u_1]) (rest := []) ⟨hx, hb, hml, hown, ht⟩ (m_firstOff l G cy _ mo h T v nm f g n n2 r_u_1  hv hf hR hL (by omega) (by omega) (by omega)) (cwV 3 ht (gv k_86 k_87 k_88 k_61 k_85) rfl rfl rfl (by decide +kernel) ⟨Nat.le_of_ble_eq_true rfl, Nat.le_of_ble_eq_true rfl⟩) ⟨En.blind, va_recv hK hP (ci := 12) (q0 := 0) rfl rfl, fun U hU hW => ⟨rfl, En.of hU hW hP hK hD0 hN⟩⟩ rfl rfl hl.1 rfl (lv_room (Nat.le_of_ble_eq_true rfl)) dX12_inWhat_54 ⟨Nat.le_of_ble_eq_true rfl, Nat.le_of_ble_eq_true rfl⟩) hS (fun q _ h => hFc q h) hFc (fun r_u_12 u_12 t9 H locs ht9 hvm hw hB hz1 hk1 hS => ?_)
          have hP := fr_keep hP hk1
          have wu_12 := hw
          clear hFc hk1 hz1 hB hw
          refine W.widen (k := 0) (n := 0) (Nat.le_of_ble_eq_true rfl) (Nat.le_of_ble_eq_true rfl) ?_
          exact W.iret (v := r_u_12) hx hb hr (fun t ht9 hW => ⟨⟨r_u_12, (), rfl, trivial, trivial⟩, hS.F ht9⟩) hS.2.2 dX12_inWhat_57
        · have q_13 : n3.toInt = (1 : Int32).toInt := (ow_eq _ _).mp c_10
          refine lv_aload_n hx hb dX12_inWhat_38 rfl (lv_at hl 1 rfl) ?_
          refine lv_iload_n hx hb dX12_inWhat_39 rfl (lv_at hl 2 rfl) ?_
          refine lv_iload_n hx hb dX12_inWhat_40 rfl (lv_at hl 3 rfl) ?_
          refine lv_iload hx hb dX12_inWhat_41 (lv_at hl 0 rfl) ?_
          have hFc := fr_new hS hA
          refine va_calli (va_runV (As := [.int n, .int n2, .int r_u_1]) (rest := []) ⟨hx, hb, hml, hown, ht⟩ (m_offAt l G cy _ mo h T v nm f g n n2 r_u_1  hv hf hR hL (by omega) (by omega) (by omega)) (cwV 3 ht (gv k_78 k_79 k_80 k_61 k_77) rfl rfl rfl (by decide +kernel) ⟨Nat.le_of_ble_eq_true rfl, Nat.le_of_ble_eq_true rfl⟩) ⟨En.blind, va_recv hK hP (ci := 12) (q0 := 0) rfl rfl, fun U hU hW => ⟨rfl, En.of hU hW hP hK hD0 hN⟩⟩ rfl rfl hl.1 rfl (lv_room (Nat.le_of_ble_eq_true rfl)) dX12_inWhat_43 ⟨Nat.le_of_ble_eq_true rfl, Nat.le_of_ble_eq_true rfl⟩) hS (fun q _ h => hFc q h) hFc (fun r_u_14 u_14 t9 H locs ht9 hvm hw hB hz1 hk1 hS => ?_)
          have hP := fr_keep hP hk1
          have wu_14 := hw
          clear hFc hk1 hz1 hB hw
          refine lv_goto (tgt := 57) hx hb dX12_inWhat_46 (by decide) ?_
          refine W.widen (k := 0) (n := 0) (Nat.le_of_ble_eq_true rfl) (Nat.le_of_ble_eq_true rfl) ?_
          exact W.iret (v := r_u_14) hx hb hr (fun t ht9 hW => ⟨⟨r_u_14, (), rfl, trivial, trivial⟩, hS.F ht9⟩) hS.2.2 dX12_inWhat_57
      · have q_15 : n3.toInt = (0 : Int32).toInt := (ow_eq _ _).mp c_8
        refine lv_iload hx hb dX12_inWhat_28 (lv_at hl 0 rfl) ?_
        refine lv_goto (tgt := 57) hx hb dX12_inWhat_30 (by decide) ?_
        refine W.widen (k := 0) (n := 0) (Nat.le_of_ble_eq_true rfl) (Nat.le_of_ble_eq_true rfl) ?_
        exact W.iret (v := r_u_1) hx hb hr (fun t ht9 hW => ⟨⟨r_u_1, (), rfl, trivial, trivial⟩, hS.F ht9⟩) hS.2.2 dX12_inWhat_57
    · have q_16 : r_u_5.toInt = (0 : Int32).toInt := (ow_eq _ _).mp c_6
      refine lv_iconst (v := (-1)) hx hb dX12_inWhat_22 (by decide) ?_
      refine W.widen (k := 0) (n := 0) (Nat.le_of_ble_eq_true rfl) (Nat.le_of_ble_eq_true rfl) ?_
      exact W.iret (v := (-1)) hx hb hr (fun t ht9 hW => ⟨⟨(-1), (), rfl, trivial, trivial⟩, hS.F ht9⟩) hS.2.2 dX12_inWhat_23
set_option maxHeartbeats 4000000 in
set_option maxRecDepth 100000 in
theorem m_isWithin (l : Launch) (G : va_G) (cy : Nat → ClassId) (sz : Nat) (mo : Nat) (h : Nat → Nat) (T : Int) (v : Nat → Int32) (nm : Int64) (f : Nat → Nat → Int32) (g : Nat → Nat → Int64) (n : Int32) (n2 : Int32) (n3 : Int32)  (hv : MIv T v) (hf : MIf f) (hR : RI v f) (hL : WL v f) (h_n : 0 ≤ n.toInt ∧ n.toInt ≤ 27) (h_n2 : 0 ≤ n2.toInt ∧ n2.toInt ≤ 28) : Met l yX12_isWithin (.code yX12_isWithin cX12_isWithin 5 (some .boolean) :: TBg) ({ frames := 4, cells := 0, slots := 0, locals := 256 }) (va_Pc [.ref mo, .int n, .int n2, .int n3] (En G cy (WMs cy mo h v nm f g) sz)) (va_Qi (fun (r : Int32) (_ : Unit) => (r.toInt = 0 ∨ r.toInt = 1)) (fun _ _ => True) (va_A [] sz)) 0 0 (va_A [] sz) := by
  refine Met.ofW (cc := cX12_isWithin) (maxL := 5) (ret := (some .boolean)) (by decide) rfl ?_
  intro p e s m args below meth c s₁ B hml hv9
  obtain ⟨rfl, hsz, hP, hK, hD0, hN⟩ := hv9
  have hx := B.exec
  have hb := B.bytes
  have hr := B.returns
  have hts := atoms_spec (ws := .code yX12_isWithin cX12_isWithin 5 (some .boolean) :: TBg) B.pre
  have ht : ∀ w ∈ TBg, w.before _ s = true := fun w h => hts w (List.mem_cons_of_mem _ h)
  have hown : s.vm.findClass RX12 = some m.cls := findClass_of_methodNamed B.named
  have hlocks := B.notSynchronized
  subst hsz
  generalize hAe : va_A [] s.heap.size = A at ⊢
  have hA : ∀ q : Nat, s.heap.size ≤ q → A q := fun q h => by rw [← hAe]; exact Or.inr h
  have hS : va_S A s.heap s.heap [] := va_S.rf
  have hl := lv_entry ([.ref mo, .int n, .int n2, .int n3]) (n := 5) (Nat.le_of_ble_eq_true rfl)
  rw [lg_entry_eq]
  generalize (lg_sl ([.ref mo, .int n, .int n2, .int n3]) ++ List.replicate (5 - (lg_sl ([.ref mo, .int n, .int n2, .int n3])).length) Slot.unset).toArray = ls at hl ⊢
  have hl : lv_has ls 5 [(0, .ref mo), (1, .int n), (2, .int n2), (3, .int n3)] := hl
  have z0 : (0 : Int32).toInt = 0 := by decide
  have z1 : (1 : Int32).toInt = 1 := by decide
  refine lv_aload_n hx hb dX12_isWithin_0 rfl (lv_at hl 0 rfl) ?_
  refine lv_iload_n hx hb dX12_isWithin_1 rfl (lv_at hl 1 rfl) ?_
  refine lv_iload_n hx hb dX12_isWithin_2 rfl (lv_at hl 2 rfl) ?_
  have hFc := fr_new hS hA
  refine va_calli (va_runV (As := [.int n, .int n2]) (rest := []) ⟨hx, hb, hml, hown, ht⟩ (m_placeOf l G cy _ mo h T v nm f g n n2  hv hf hR hL (by omega) (by omega)) (cwV 2 ht (gv k_82 k_83 k_84 k_61 k_81) rfl rfl rfl (by decide +kernel) ⟨Nat.le_of_ble_eq_true rfl, Nat.le_of_ble_eq_true rfl⟩) ⟨En.blind, va_recv hK hP (ci := 12) (q0 := 0) rfl rfl, fun U hU hW => ⟨rfl, En.of hU hW hP hK hD0 hN⟩⟩ rfl rfl hl.1 rfl (lv_room (Nat.le_of_ble_eq_true rfl)) dX12_isWithin_3 ⟨Nat.le_of_ble_eq_true rfl, Nat.le_of_ble_eq_true rfl⟩) hS (fun q _ h => hFc q h) hFc (fun r_u_1 u_1 t9 H locs ht9 hvm hw hB hz1 hk1 hS => ?_)
  have hP := fr_keep hP hk1
  have wu_1 := hw
  clear hFc hk1 hz1 hB hw
  refine lv_istore (lv' := [(4, .int r_u_1), (0, .ref mo), (1, .int n), (2, .int n2), (3, .int n3)]) hx hb dX12_isWithin_6 hl (by decide) rfl (fun ls hl => ?_)
  refine lv_iload hx hb dX12_isWithin_8 (lv_at hl 0 rfl) ?_
  refine lv_if_lt (tgt := 29) hx hb dX12_isWithin_10 (by decide) (fun c_2 => ?_) (fun c_2 => ?_)
  · have q_3 : r_u_1.toInt < (0 : Int32).toInt := (ow_lt _ _).mp c_2
    refine lv_iconst (v := 0) hx hb dX12_isWithin_29 (by decide) ?_
    refine W.widen (k := 0) (n := 0) (Nat.le_of_ble_eq_true rfl) (Nat.le_of_ble_eq_true rfl) ?_
    exact W.zret (v := 0) hx hb hr rfl (fun t ht9 hW => ⟨⟨0, (), rfl, (by omega), trivial⟩, hS.F ht9⟩) hS.2.2 dX12_isWithin_30
  · have q_4 : (0 : Int32).toInt ≤ r_u_1.toInt := by have := (not_congr (ow_lt _ _)).mp c_2; omega
    refine lv_aload_n hx hb dX12_isWithin_13 rfl (lv_at hl 1 rfl) ?_
    refine lv_iload_n hx hb dX12_isWithin_14 rfl (lv_at hl 2 rfl) ?_
    refine lv_iload_n hx hb dX12_isWithin_15 rfl (lv_at hl 3 rfl) ?_
    refine lv_iload hx hb dX12_isWithin_16 (lv_at hl 0 rfl) ?_
    have hFc := fr_new hS hA
    refine va_calli (va_runV (As := [.int n, .int n2, .int r_u_1]) (rest := []) ⟨hx, hb, hml, hown, ht⟩ (m_offAt l G cy _ mo h T v nm f g n n2 r_u_1  hv hf hR hL (by omega) (by omega) (by omega)) (cwV 3 ht (gv k_78 k_79 k_80 k_61 k_77) rfl rfl rfl (by decide +kernel) ⟨Nat.le_of_ble_eq_true rfl, Nat.le_of_ble_eq_true rfl⟩) ⟨En.blind, va_recv hK hP (ci := 12) (q0 := 0) rfl rfl, fun U hU hW => ⟨rfl, En.of hU hW hP hK hD0 hN⟩⟩ rfl rfl hl.1 rfl (lv_room (Nat.le_of_ble_eq_true rfl)) dX12_isWithin_18 ⟨Nat.le_of_ble_eq_true rfl, Nat.le_of_ble_eq_true rfl⟩) hS (fun q _ h => hFc q h) hFc (fun r_u_5 u_5 t9 H locs ht9 hvm hw hB hz1 hk1 hS => ?_)
    have hP := fr_keep hP hk1
    have wu_5 := hw
    clear hFc hk1 hz1 hB hw
    refine lv_iload_n hx hb dX12_isWithin_21 rfl (lv_at hl 4 rfl) ?_
    refine lv_icmp_gt (tgt := 29) hx hb dX12_isWithin_22 (by decide) (fun c_6 => ?_) (fun c_6 => ?_)
    · have q_7 : n3.toInt < r_u_5.toInt := (ow_lt _ _).mp c_6
      refine lv_iconst (v := 0) hx hb dX12_isWithin_29 (by decide) ?_
      refine W.widen (k := 0) (n := 0) (Nat.le_of_ble_eq_true rfl) (Nat.le_of_ble_eq_true rfl) ?_
      exact W.zret (v := 0) hx hb hr rfl (fun t ht9 hW => ⟨⟨0, (), rfl, (by omega), trivial⟩, hS.F ht9⟩) hS.2.2 dX12_isWithin_30
    · have q_8 : r_u_5.toInt ≤ n3.toInt := by have := (not_congr (ow_lt _ _)).mp c_6; omega
      refine lv_iconst (v := 1) hx hb dX12_isWithin_25 (by decide) ?_
      refine lv_goto (tgt := 30) hx hb dX12_isWithin_26 (by decide) ?_
      refine W.widen (k := 0) (n := 0) (Nat.le_of_ble_eq_true rfl) (Nat.le_of_ble_eq_true rfl) ?_
      exact W.zret (v := 1) hx hb hr rfl (fun t ht9 hW => ⟨⟨1, (), rfl, (by omega), trivial⟩, hS.F ht9⟩) hS.2.2 dX12_isWithin_30
set_option maxHeartbeats 4000000 in
set_option maxRecDepth 100000 in
theorem m_notes (l : Launch) (G : va_G) (cy : Nat → ClassId) (sz : Nat) (mo : Nat) (h : Nat → Nat) (T : Int) (v : Nat → Int32) (nm : Int64) (f : Nat → Nat → Int32) (g : Nat → Nat → Int64) (n : Int32)  (hv : MIv T v) (hf : MIf f) (hR : RI v f) (hL : WL v f)  : Met l yX12_notes (.code yX12_notes cX12_notes 2 (some .int) :: TBg) ({ frames := 3, cells := 0, slots := 0, locals := 192 }) (va_Pc [.ref mo, .int n] (En G cy (WMs cy mo h v nm f g) sz)) (va_Qi (fun (r : Int32) (_ : Unit) => True) (fun _ _ => True) (va_A [] sz)) 0 0 (va_A [] sz) := by
  refine Met.ofW (cc := cX12_notes) (maxL := 2) (ret := (some .int)) (by decide) rfl ?_
  intro p e s m args below meth c s₁ B hml hv9
  obtain ⟨rfl, hsz, hP, hK, hD0, hN⟩ := hv9
  have hx := B.exec
  have hb := B.bytes
  have hr := B.returns
  have hts := atoms_spec (ws := .code yX12_notes cX12_notes 2 (some .int) :: TBg) B.pre
  have ht : ∀ w ∈ TBg, w.before _ s = true := fun w h => hts w (List.mem_cons_of_mem _ h)
  have hown : s.vm.findClass RX12 = some m.cls := findClass_of_methodNamed B.named
  have hlocks := B.notSynchronized
  subst hsz
  generalize hAe : va_A [] s.heap.size = A at ⊢
  have hA : ∀ q : Nat, s.heap.size ≤ q → A q := fun q h => by rw [← hAe]; exact Or.inr h
  have hS : va_S A s.heap s.heap [] := va_S.rf
  have hl := lv_entry ([.ref mo, .int n]) (n := 2) (Nat.le_of_ble_eq_true rfl)
  rw [lg_entry_eq]
  generalize (lg_sl ([.ref mo, .int n]) ++ List.replicate (2 - (lg_sl ([.ref mo, .int n])).length) Slot.unset).toArray = ls at hl ⊢
  have hl : lv_has ls 2 [(0, .ref mo), (1, .int n)] := hl
  have z0 : (-1 : Int32).toInt = -1 := by decide
  have z1 : (0 : Int32).toInt = 0 := by decide
  refine lv_aload_n hx hb dX12_notes_0 rfl (lv_at hl 0 rfl) ?_
  refine lv_iload_n hx hb dX12_notes_1 rfl (lv_at hl 1 rfl) ?_
  have hFc := fr_new hS hA
  refine va_calli (va_runV (As := [.int n]) (rest := []) ⟨hx, hb, hml, hown, ht⟩ (m_isTune l G cy _ mo h T v nm f g n  hv hf hR hL) (cwV 1 ht (gv k_90 k_91 k_92 k_61 k_89) rfl rfl rfl (by decide +kernel) ⟨Nat.le_of_ble_eq_true rfl, Nat.le_of_ble_eq_true rfl⟩) ⟨En.blind, va_recv hK hP (ci := 12) (q0 := 0) rfl rfl, fun U hU hW => ⟨rfl, En.of hU hW hP hK hD0 hN⟩⟩ rfl rfl hl.1 rfl (lv_room (Nat.le_of_ble_eq_true rfl)) dX12_notes_2 ⟨Nat.le_of_ble_eq_true rfl, Nat.le_of_ble_eq_true rfl⟩) hS (fun q _ h => hFc q h) hFc (fun r_u_1 u_1 t9 H locs ht9 hvm hw hB hz1 hk1 hS => ?_)
  have hP := fr_keep hP hk1
  have wu_1 := hw
  clear hFc hk1 hz1 hB hw
  refine lv_if_eq (tgt := 20) hx hb dX12_notes_5 (by decide) (fun c_2 => ?_) (fun c_2 => ?_)
  · have q_3 : r_u_1.toInt = (0 : Int32).toInt := (ow_eq _ _).mp c_2
    refine lv_iconst (v := (-1)) hx hb dX12_notes_20 (by decide) ?_
    refine W.widen (k := 0) (n := 0) (Nat.le_of_ble_eq_true rfl) (Nat.le_of_ble_eq_true rfl) ?_
    exact W.iret (v := (-1)) hx hb hr (fun t ht9 hW => ⟨⟨(-1), (), rfl, trivial, trivial⟩, hS.F ht9⟩) hS.2.2 dX12_notes_21
  · have q_4 : ¬ r_u_1.toInt = (0 : Int32).toInt := by have := (not_congr (ow_eq _ _)).mp c_2; omega
    refine lv_aload_n hx hb dX12_notes_8 rfl (lv_at hl 0 rfl) ?_
    refine lv_aload_n hx hb dX12_notes_9 rfl (lv_at hl 0 rfl) ?_
    refine lv_iload_n hx hb dX12_notes_10 rfl (lv_at hl 1 rfl) ?_
    have hFc := fr_new hS hA
    refine va_calli (va_runV (As := [.int n]) (rest := [.ref mo]) ⟨hx, hb, hml, hown, ht⟩ (m_songOf l G cy _ mo h T v nm f g n  hv hf hR hL (by omega)) (cwV 1 ht (gv k_94 k_95 k_96 k_61 k_93) rfl rfl rfl (by decide +kernel) ⟨Nat.le_of_ble_eq_true rfl, Nat.le_of_ble_eq_true rfl⟩) ⟨En.blind, va_recv hK hP (ci := 12) (q0 := 0) rfl rfl, fun U hU hW => ⟨rfl, En.of hU hW hP hK hD0 hN⟩⟩ rfl rfl hl.1 rfl (lv_room (Nat.le_of_ble_eq_true rfl)) dX12_notes_11 ⟨Nat.le_of_ble_eq_true rfl, Nat.le_of_ble_eq_true rfl⟩) hS (fun q _ h => hFc q h) hFc (fun r_u_5 u_5 t9 H locs ht9 hvm hw hB hz1 hk1 hS => ?_)
    have hP := fr_keep hP hk1
    have wu_5 := hw
    clear hFc hk1 hz1 hB hw
    have hFc := fr_new hS hA
    refine va_calli (va_runV (As := [.int r_u_5]) (rest := []) ⟨hx, hb, hml, hown, ht⟩ (m_many27 l G cy _ mo h T v nm f g r_u_5  hv hf hR hL (by omega)) (cwV 1 ht (gv k_63 k_64 k_65 k_61 k_62) rfl rfl rfl (by decide +kernel) ⟨Nat.le_of_ble_eq_true rfl, Nat.le_of_ble_eq_true rfl⟩) ⟨En.blind, va_recv hK hP (ci := 12) (q0 := 0) rfl rfl, fun U hU hW => ⟨rfl, En.of hU hW hP hK hD0 hN⟩⟩ rfl rfl hl.1 rfl (lv_room (Nat.le_of_ble_eq_true rfl)) dX12_notes_14 ⟨Nat.le_of_ble_eq_true rfl, Nat.le_of_ble_eq_true rfl⟩) hS (fun q _ h => hFc q h) hFc (fun r_u_6 u_6 t9 H locs ht9 hvm hw hB hz1 hk1 hS => ?_)
    have hP := fr_keep hP hk1
    have wu_6 := hw
    clear hFc hk1 hz1 hB hw
    refine lv_goto (tgt := 21) hx hb dX12_notes_17 (by decide) ?_
    refine W.widen (k := 0) (n := 0) (Nat.le_of_ble_eq_true rfl) (Nat.le_of_ble_eq_true rfl) ?_
    exact W.iret (v := r_u_6) hx hb hr (fun t ht9 hW => ⟨⟨r_u_6, (), rfl, trivial, trivial⟩, hS.F ht9⟩) hS.2.2 dX12_notes_21
set_option maxHeartbeats 4000000 in
set_option maxRecDepth 100000 in
theorem m_step (l : Launch) (G : va_G) (cy : Nat → ClassId) (sz : Nat) (mo : Nat) (h : Nat → Nat) (T : Int) (v : Nat → Int32) (nm : Int64) (f : Nat → Nat → Int32) (g : Nat → Nat → Int64) (n : Int32) (n2 : Int32)  (hv : MIv T v) (hf : MIf f) (hR : RI v f) (hL : WL v f)  : Met l yX12_step (.code yX12_step cX12_step 3 (some .int) :: TBg) ({ frames := 3, cells := 0, slots := 0, locals := 192 }) (va_Pc [.ref mo, .int n, .int n2] (En G cy (WMs cy mo h v nm f g) sz)) (va_Qi (fun (r : Int32) (_ : Unit) => True) (fun _ _ => True) (va_A [] sz)) 0 0 (va_A [] sz) := by
  refine Met.ofW (cc := cX12_step) (maxL := 3) (ret := (some .int)) (by decide) rfl ?_
  intro p e s m args below meth c s₁ B hml hv9
  obtain ⟨rfl, hsz, hP, hK, hD0, hN⟩ := hv9
  have hx := B.exec
  have hb := B.bytes
  have hr := B.returns
  have hts := atoms_spec (ws := .code yX12_step cX12_step 3 (some .int) :: TBg) B.pre
  have ht : ∀ w ∈ TBg, w.before _ s = true := fun w h => hts w (List.mem_cons_of_mem _ h)
  have hown : s.vm.findClass RX12 = some m.cls := findClass_of_methodNamed B.named
  have hlocks := B.notSynchronized
  subst hsz
  generalize hAe : va_A [] s.heap.size = A at ⊢
  have hA : ∀ q : Nat, s.heap.size ≤ q → A q := fun q h => by rw [← hAe]; exact Or.inr h
  have hS : va_S A s.heap s.heap [] := va_S.rf
  have hl := lv_entry ([.ref mo, .int n, .int n2]) (n := 3) (Nat.le_of_ble_eq_true rfl)
  rw [lg_entry_eq]
  generalize (lg_sl ([.ref mo, .int n, .int n2]) ++ List.replicate (3 - (lg_sl ([.ref mo, .int n, .int n2])).length) Slot.unset).toArray = ls at hl ⊢
  have hl : lv_has ls 3 [(0, .ref mo), (1, .int n), (2, .int n2)] := hl
  have z0 : (-1000000 : Int32).toInt = -1000000 := by decide
  have z1 : (0 : Int32).toInt = 0 := by decide
  have z2 : (2 : Int32).toInt = 2 := by decide
  refine lv_aload_n hx hb dX12_step_0 rfl (lv_at hl 0 rfl) ?_
  refine lv_iload_n hx hb dX12_step_1 rfl (lv_at hl 1 rfl) ?_
  have hFc := fr_new hS hA
  refine va_calli (va_runV (As := [.int n]) (rest := []) ⟨hx, hb, hml, hown, ht⟩ (m_isTune l G cy _ mo h T v nm f g n  hv hf hR hL) (cwV 1 ht (gv k_90 k_91 k_92 k_61 k_89) rfl rfl rfl (by decide +kernel) ⟨Nat.le_of_ble_eq_true rfl, Nat.le_of_ble_eq_true rfl⟩) ⟨En.blind, va_recv hK hP (ci := 12) (q0 := 0) rfl rfl, fun U hU hW => ⟨rfl, En.of hU hW hP hK hD0 hN⟩⟩ rfl rfl hl.1 rfl (lv_room (Nat.le_of_ble_eq_true rfl)) dX12_step_2 ⟨Nat.le_of_ble_eq_true rfl, Nat.le_of_ble_eq_true rfl⟩) hS (fun q _ h => hFc q h) hFc (fun r_u_1 u_1 t9 H locs ht9 hvm hw hB hz1 hk1 hS => ?_)
  have hP := fr_keep hP hk1
  have wu_1 := hw
  clear hFc hk1 hz1 hB hw
  refine lv_if_eq (tgt := 40) hx hb dX12_step_5 (by decide) (fun c_2 => ?_) (fun c_2 => ?_)
  · have q_3 : r_u_1.toInt = (0 : Int32).toInt := (ow_eq _ _).mp c_2
    refine lv_ldcw (v := (-1000000)) hx hb hown (ht _ k_97) dX12_step_40 ?_
    refine W.widen (k := 0) (n := 0) (Nat.le_of_ble_eq_true rfl) (Nat.le_of_ble_eq_true rfl) ?_
    exact W.iret (v := (-1000000)) hx hb hr (fun t ht9 hW => ⟨⟨(-1000000), (), rfl, trivial, trivial⟩, hS.F ht9⟩) hS.2.2 dX12_step_43
  · have q_4 : ¬ r_u_1.toInt = (0 : Int32).toInt := by have := (not_congr (ow_eq _ _)).mp c_2; omega
    refine lv_iload_n hx hb dX12_step_8 rfl (lv_at hl 2 rfl) ?_
    refine lv_iconst (v := 0) hx hb dX12_step_9 (by decide) ?_
    refine lv_aload_n hx hb dX12_step_10 rfl (lv_at hl 0 rfl) ?_
    refine lv_aload_n hx hb dX12_step_11 rfl (lv_at hl 0 rfl) ?_
    refine lv_iload_n hx hb dX12_step_12 rfl (lv_at hl 1 rfl) ?_
    have hFc := fr_new hS hA
    refine va_calli (va_runV (As := [.int n]) (rest := [.ref mo, .int 0, .int n2]) ⟨hx, hb, hml, hown, ht⟩ (m_songOf l G cy _ mo h T v nm f g n  hv hf hR hL (by omega)) (cwV 1 ht (gv k_94 k_95 k_96 k_61 k_93) rfl rfl rfl (by decide +kernel) ⟨Nat.le_of_ble_eq_true rfl, Nat.le_of_ble_eq_true rfl⟩) ⟨En.blind, va_recv hK hP (ci := 12) (q0 := 0) rfl rfl, fun U hU hW => ⟨rfl, En.of hU hW hP hK hD0 hN⟩⟩ rfl rfl hl.1 rfl (lv_room (Nat.le_of_ble_eq_true rfl)) dX12_step_13 ⟨Nat.le_of_ble_eq_true rfl, Nat.le_of_ble_eq_true rfl⟩) hS (fun q _ h => hFc q h) hFc (fun r_u_5 u_5 t9 H locs ht9 hvm hw hB hz1 hk1 hS => ?_)
    have hP := fr_keep hP hk1
    have wu_5 := hw
    clear hFc hk1 hz1 hB hw
    have hFc := fr_new hS hA
    refine va_calli (va_runV (As := [.int r_u_5]) (rest := [.int 0, .int n2]) ⟨hx, hb, hml, hown, ht⟩ (m_many27 l G cy _ mo h T v nm f g r_u_5  hv hf hR hL (by omega)) (cwV 1 ht (gv k_63 k_64 k_65 k_61 k_62) rfl rfl rfl (by decide +kernel) ⟨Nat.le_of_ble_eq_true rfl, Nat.le_of_ble_eq_true rfl⟩) ⟨En.blind, va_recv hK hP (ci := 12) (q0 := 0) rfl rfl, fun U hU hW => ⟨rfl, En.of hU hW hP hK hD0 hN⟩⟩ rfl rfl hl.1 rfl (lv_room (Nat.le_of_ble_eq_true rfl)) dX12_step_16 ⟨Nat.le_of_ble_eq_true rfl, Nat.le_of_ble_eq_true rfl⟩) hS (fun q _ h => hFc q h) hFc (fun r_u_6 u_6 t9 H locs ht9 hvm hw hB hz1 hk1 hS => ?_)
    have hP := fr_keep hP hk1
    have wu_6 := hw
    clear hFc hk1 hz1 hB hw
    refine lv_iconst (v := 2) hx hb dX12_step_19 (by decide) ?_
    refine lv_isub hx hb dX12_step_20 ?_
    refine lv_topi (fun v_7 ev_7 => ?_)
    have q_8 : v_7.toInt = r_u_6.toInt - (2 : Int32).toInt := ow_sub ev_7 (by omega) (by omega)
    have hFc := fr_new hS hA
    refine va_calli (va_runS (As := [.int n2, .int 0, .int v_7]) (rest := []) ⟨hx, hb, hml, hown, ht⟩ (m_isIn l G cy _  n2 (0) v_7  ) (va_cwS 3 ht (gs k_59 k_60 k_61 k_58) rfl rfl rfl (by decide +kernel) ⟨Nat.le_of_ble_eq_true rfl, Nat.le_of_ble_eq_true rfl⟩) ⟨En.blind, fun U hU hW => ⟨rfl, En.of hU hW (va_P0 (H := _)) hK va_D0 hN⟩⟩ rfl rfl hl.1 rfl (lv_room (Nat.le_of_ble_eq_true rfl)) dX12_step_21 ⟨Nat.le_of_ble_eq_true rfl, Nat.le_of_ble_eq_true rfl⟩) hS (fun q _ h => hFc q h) hFc (fun r_u_9 u_9 t9 H locs ht9 hvm hw hB hz1 hk1 hS => ?_)
    have hP := fr_keep hP hk1
    have wu_9 := hw
    clear hFc hk1 hz1 hB hw
    refine lv_if_eq (tgt := 40) hx hb dX12_step_24 (by decide) (fun c_10 => ?_) (fun c_10 => ?_)
    · have q_11 : r_u_9.toInt = (0 : Int32).toInt := (ow_eq _ _).mp c_10
      refine lv_ldcw (v := (-1000000)) hx hb hown (ht _ k_97) dX12_step_40 ?_
      refine W.widen (k := 0) (n := 0) (Nat.le_of_ble_eq_true rfl) (Nat.le_of_ble_eq_true rfl) ?_
      exact W.iret (v := (-1000000)) hx hb hr (fun t ht9 hW => ⟨⟨(-1000000), (), rfl, trivial, trivial⟩, hS.F ht9⟩) hS.2.2 dX12_step_43
    · have q_12 : ¬ r_u_9.toInt = (0 : Int32).toInt := by have := (not_congr (ow_eq _ _)).mp c_10; omega
      refine lv_aload_n hx hb dX12_step_27 rfl (lv_at hl 0 rfl) ?_
      refine lv_aload_n hx hb dX12_step_28 rfl (lv_at hl 0 rfl) ?_
      refine lv_iload_n hx hb dX12_step_29 rfl (lv_at hl 1 rfl) ?_
      have hFc := fr_new hS hA
      refine va_calli (va_runV (As := [.int n]) (rest := [.ref mo]) ⟨hx, hb, hml, hown, ht⟩ (m_songOf l G cy _ mo h T v nm f g n  hv hf hR hL (by omega)) (cwV 1 ht (gv k_94 k_95 k_96 k_61 k_93) rfl rfl rfl (by decide +kernel) ⟨Nat.le_of_ble_eq_true rfl, Nat.le_of_ble_eq_true rfl⟩) ⟨En.blind, va_recv hK hP (ci := 12) (q0 := 0) rfl rfl, fun U hU hW => ⟨rfl, En.of hU hW hP hK hD0 hN⟩⟩ rfl rfl hl.1 rfl (lv_room (Nat.le_of_ble_eq_true rfl)) dX12_step_30 ⟨Nat.le_of_ble_eq_true rfl, Nat.le_of_ble_eq_true rfl⟩) hS (fun q _ h => hFc q h) hFc (fun r_u_13 u_13 t9 H locs ht9 hvm hw hB hz1 hk1 hS => ?_)
      have hP := fr_keep hP hk1
      have wu_13 := hw
      clear hFc hk1 hz1 hB hw
      refine lv_iload_n hx hb dX12_step_33 rfl (lv_at hl 2 rfl) ?_
      have hFc := fr_new hS hA
      refine va_calli (va_runV (As := [.int r_u_13, .int n2]) (rest := []) ⟨hx, hb, hml, hown, ht⟩ (m_stepOf l G cy _ mo h T v nm f g r_u_13 n2  hv hf hR hL (by omega) (by omega)) (cwV 2 ht (gv k_71 k_72 k_73 k_61 k_70) rfl rfl rfl (by decide +kernel) ⟨Nat.le_of_ble_eq_true rfl, Nat.le_of_ble_eq_true rfl⟩) ⟨En.blind, va_recv hK hP (ci := 12) (q0 := 0) rfl rfl, fun U hU hW => ⟨rfl, En.of hU hW hP hK hD0 hN⟩⟩ rfl rfl hl.1 rfl (lv_room (Nat.le_of_ble_eq_true rfl)) dX12_step_34 ⟨Nat.le_of_ble_eq_true rfl, Nat.le_of_ble_eq_true rfl⟩) hS (fun q _ h => hFc q h) hFc (fun r_u_14 u_14 t9 H locs ht9 hvm hw hB hz1 hk1 hS => ?_)
      have hP := fr_keep hP hk1
      have wu_14 := hw
      clear hFc hk1 hz1 hB hw
      refine lv_goto (tgt := 43) hx hb dX12_step_37 (by decide) ?_
      refine W.widen (k := 0) (n := 0) (Nat.le_of_ble_eq_true rfl) (Nat.le_of_ble_eq_true rfl) ?_
      exact W.iret (v := r_u_14) hx hb hr (fun t ht9 hW => ⟨⟨r_u_14, (), rfl, trivial, trivial⟩, hS.F ht9⟩) hS.2.2 dX12_step_43
set_option maxHeartbeats 4000000 in
set_option maxRecDepth 100000 in
theorem m_off (l : Launch) (G : va_G) (cy : Nat → ClassId) (sz : Nat) (mo : Nat) (h : Nat → Nat) (T : Int) (v : Nat → Int32) (nm : Int64) (f : Nat → Nat → Int32) (g : Nat → Nat → Int64) (n : Int32) (n2 : Int32) (n3 : Int32)  (hv : MIv T v) (hf : MIf f) (hR : RI v f) (hL : WL v f)  : Met l yX12_off (.code yX12_off cX12_off 4 (some .int) :: TBg) ({ frames := 3, cells := 0, slots := 0, locals := 192 }) (va_Pc [.ref mo, .int n, .int n2, .int n3] (En G cy (WMs cy mo h v nm f g) sz)) (va_Qi (fun (r : Int32) (_ : Unit) => True) (fun _ _ => True) (va_A [] sz)) 0 0 (va_A [] sz) := by
  refine Met.ofW (cc := cX12_off) (maxL := 4) (ret := (some .int)) (by decide) rfl ?_
  intro p e s m args below meth c s₁ B hml hv9
  obtain ⟨rfl, hsz, hP, hK, hD0, hN⟩ := hv9
  have hx := B.exec
  have hb := B.bytes
  have hr := B.returns
  have hts := atoms_spec (ws := .code yX12_off cX12_off 4 (some .int) :: TBg) B.pre
  have ht : ∀ w ∈ TBg, w.before _ s = true := fun w h => hts w (List.mem_cons_of_mem _ h)
  have hown : s.vm.findClass RX12 = some m.cls := findClass_of_methodNamed B.named
  have hlocks := B.notSynchronized
  subst hsz
  generalize hAe : va_A [] s.heap.size = A at ⊢
  have hA : ∀ q : Nat, s.heap.size ≤ q → A q := fun q h => by rw [← hAe]; exact Or.inr h
  have hS : va_S A s.heap s.heap [] := va_S.rf
  have hl := lv_entry ([.ref mo, .int n, .int n2, .int n3]) (n := 4) (Nat.le_of_ble_eq_true rfl)
  rw [lg_entry_eq]
  generalize (lg_sl ([.ref mo, .int n, .int n2, .int n3]) ++ List.replicate (4 - (lg_sl ([.ref mo, .int n, .int n2, .int n3])).length) Slot.unset).toArray = ls at hl ⊢
  have hl : lv_has ls 4 [(0, .ref mo), (1, .int n), (2, .int n2), (3, .int n3)] := hl
  have z0 : (-1 : Int32).toInt = -1 := by decide
  have z1 : (0 : Int32).toInt = 0 := by decide
  refine lv_aload_n hx hb dX12_off_0 rfl (lv_at hl 0 rfl) ?_
  refine lv_iload_n hx hb dX12_off_1 rfl (lv_at hl 1 rfl) ?_
  have hFc := fr_new hS hA
  refine va_calli (va_runV (As := [.int n]) (rest := []) ⟨hx, hb, hml, hown, ht⟩ (m_isTune l G cy _ mo h T v nm f g n  hv hf hR hL) (cwV 1 ht (gv k_90 k_91 k_92 k_61 k_89) rfl rfl rfl (by decide +kernel) ⟨Nat.le_of_ble_eq_true rfl, Nat.le_of_ble_eq_true rfl⟩) ⟨En.blind, va_recv hK hP (ci := 12) (q0 := 0) rfl rfl, fun U hU hW => ⟨rfl, En.of hU hW hP hK hD0 hN⟩⟩ rfl rfl hl.1 rfl (lv_room (Nat.le_of_ble_eq_true rfl)) dX12_off_2 ⟨Nat.le_of_ble_eq_true rfl, Nat.le_of_ble_eq_true rfl⟩) hS (fun q _ h => hFc q h) hFc (fun r_u_1 u_1 t9 H locs ht9 hvm hw hB hz1 hk1 hS => ?_)
  have hP := fr_keep hP hk1
  have wu_1 := hw
  clear hFc hk1 hz1 hB hw
  refine lv_if_eq (tgt := 43) hx hb dX12_off_5 (by decide) (fun c_2 => ?_) (fun c_2 => ?_)
  · have q_3 : r_u_1.toInt = (0 : Int32).toInt := (ow_eq _ _).mp c_2
    refine lv_iconst (v := (-1)) hx hb dX12_off_43 (by decide) ?_
    refine W.widen (k := 0) (n := 0) (Nat.le_of_ble_eq_true rfl) (Nat.le_of_ble_eq_true rfl) ?_
    exact W.iret (v := (-1)) hx hb hr (fun t ht9 hW => ⟨⟨(-1), (), rfl, trivial, trivial⟩, hS.F ht9⟩) hS.2.2 dX12_off_44
  · have q_4 : ¬ r_u_1.toInt = (0 : Int32).toInt := by have := (not_congr (ow_eq _ _)).mp c_2; omega
    refine lv_aload_n hx hb dX12_off_8 rfl (lv_at hl 0 rfl) ?_
    refine lv_iload_n hx hb dX12_off_9 rfl (lv_at hl 2 rfl) ?_
    have hFc := fr_new hS hA
    refine va_calli (va_runV (As := [.int n2]) (rest := []) ⟨hx, hb, hml, hown, ht⟩ (m_isTune l G cy _ mo h T v nm f g n2  hv hf hR hL) (cwV 1 ht (gv k_90 k_91 k_92 k_61 k_89) rfl rfl rfl (by decide +kernel) ⟨Nat.le_of_ble_eq_true rfl, Nat.le_of_ble_eq_true rfl⟩) ⟨En.blind, va_recv hK hP (ci := 12) (q0 := 0) rfl rfl, fun U hU hW => ⟨rfl, En.of hU hW hP hK hD0 hN⟩⟩ rfl rfl hl.1 rfl (lv_room (Nat.le_of_ble_eq_true rfl)) dX12_off_10 ⟨Nat.le_of_ble_eq_true rfl, Nat.le_of_ble_eq_true rfl⟩) hS (fun q _ h => hFc q h) hFc (fun r_u_5 u_5 t9 H locs ht9 hvm hw hB hz1 hk1 hS => ?_)
    have hP := fr_keep hP hk1
    have wu_5 := hw
    clear hFc hk1 hz1 hB hw
    refine lv_if_eq (tgt := 43) hx hb dX12_off_13 (by decide) (fun c_6 => ?_) (fun c_6 => ?_)
    · have q_7 : r_u_5.toInt = (0 : Int32).toInt := (ow_eq _ _).mp c_6
      refine lv_iconst (v := (-1)) hx hb dX12_off_43 (by decide) ?_
      refine W.widen (k := 0) (n := 0) (Nat.le_of_ble_eq_true rfl) (Nat.le_of_ble_eq_true rfl) ?_
      exact W.iret (v := (-1)) hx hb hr (fun t ht9 hW => ⟨⟨(-1), (), rfl, trivial, trivial⟩, hS.F ht9⟩) hS.2.2 dX12_off_44
    · have q_8 : ¬ r_u_5.toInt = (0 : Int32).toInt := by have := (not_congr (ow_eq _ _)).mp c_6; omega
      refine lv_iload_n hx hb dX12_off_16 rfl (lv_at hl 3 rfl) ?_
      refine lv_iconst (v := 0) hx hb dX12_off_17 (by decide) ?_
      refine lv_aload_n hx hb dX12_off_18 rfl (lv_at hl 0 rfl) ?_
      refine lv_aload_n hx hb dX12_off_19 rfl (lv_at hl 0 rfl) ?_
      refine lv_iload_n hx hb dX12_off_20 rfl (lv_at hl 2 rfl) ?_
      have hFc := fr_new hS hA
      refine va_calli (va_runV (As := [.int n2]) (rest := [.ref mo, .int 0, .int n3]) ⟨hx, hb, hml, hown, ht⟩ (m_songOf l G cy _ mo h T v nm f g n2  hv hf hR hL (by omega)) (cwV 1 ht (gv k_94 k_95 k_96 k_61 k_93) rfl rfl rfl (by decide +kernel) ⟨Nat.le_of_ble_eq_true rfl, Nat.le_of_ble_eq_true rfl⟩) ⟨En.blind, va_recv hK hP (ci := 12) (q0 := 0) rfl rfl, fun U hU hW => ⟨rfl, En.of hU hW hP hK hD0 hN⟩⟩ rfl rfl hl.1 rfl (lv_room (Nat.le_of_ble_eq_true rfl)) dX12_off_21 ⟨Nat.le_of_ble_eq_true rfl, Nat.le_of_ble_eq_true rfl⟩) hS (fun q _ h => hFc q h) hFc (fun r_u_9 u_9 t9 H locs ht9 hvm hw hB hz1 hk1 hS => ?_)
      have hP := fr_keep hP hk1
      have wu_9 := hw
      clear hFc hk1 hz1 hB hw
      have hFc := fr_new hS hA
      refine va_calli (va_runV (As := [.int r_u_9]) (rest := [.int 0, .int n3]) ⟨hx, hb, hml, hown, ht⟩ (m_many27 l G cy _ mo h T v nm f g r_u_9  hv hf hR hL (by omega)) (cwV 1 ht (gv k_63 k_64 k_65 k_61 k_62) rfl rfl rfl (by decide +kernel) ⟨Nat.le_of_ble_eq_true rfl, Nat.le_of_ble_eq_true rfl⟩) ⟨En.blind, va_recv hK hP (ci := 12) (q0 := 0) rfl rfl, fun U hU hW => ⟨rfl, En.of hU hW hP hK hD0 hN⟩⟩ rfl rfl hl.1 rfl (lv_room (Nat.le_of_ble_eq_true rfl)) dX12_off_24 ⟨Nat.le_of_ble_eq_true rfl, Nat.le_of_ble_eq_true rfl⟩) hS (fun q _ h => hFc q h) hFc (fun r_u_10 u_10 t9 H locs ht9 hvm hw hB hz1 hk1 hS => ?_)
      have hP := fr_keep hP hk1
      have wu_10 := hw
      clear hFc hk1 hz1 hB hw
      refine lv_aload_n hx hb dX12_off_27 rfl (lv_at hl 0 rfl) ?_
      refine lv_aload_n hx hb dX12_off_28 rfl (lv_at hl 0 rfl) ?_
      refine lv_iload_n hx hb dX12_off_29 rfl (lv_at hl 1 rfl) ?_
      have hFc := fr_new hS hA
      refine va_calli (va_runV (As := [.int n]) (rest := [.ref mo, .int r_u_10, .int 0, .int n3]) ⟨hx, hb, hml, hown, ht⟩ (m_songOf l G cy _ mo h T v nm f g n  hv hf hR hL (by omega)) (cwV 1 ht (gv k_94 k_95 k_96 k_61 k_93) rfl rfl rfl (by decide +kernel) ⟨Nat.le_of_ble_eq_true rfl, Nat.le_of_ble_eq_true rfl⟩) ⟨En.blind, va_recv hK hP (ci := 12) (q0 := 0) rfl rfl, fun U hU hW => ⟨rfl, En.of hU hW hP hK hD0 hN⟩⟩ rfl rfl hl.1 rfl (lv_room (Nat.le_of_ble_eq_true rfl)) dX12_off_30 ⟨Nat.le_of_ble_eq_true rfl, Nat.le_of_ble_eq_true rfl⟩) hS (fun q _ h => hFc q h) hFc (fun r_u_11 u_11 t9 H locs ht9 hvm hw hB hz1 hk1 hS => ?_)
      have hP := fr_keep hP hk1
      have wu_11 := hw
      clear hFc hk1 hz1 hB hw
      have hFc := fr_new hS hA
      refine va_calli (va_runV (As := [.int r_u_11]) (rest := [.int r_u_10, .int 0, .int n3]) ⟨hx, hb, hml, hown, ht⟩ (m_many27 l G cy _ mo h T v nm f g r_u_11  hv hf hR hL (by omega)) (cwV 1 ht (gv k_63 k_64 k_65 k_61 k_62) rfl rfl rfl (by decide +kernel) ⟨Nat.le_of_ble_eq_true rfl, Nat.le_of_ble_eq_true rfl⟩) ⟨En.blind, va_recv hK hP (ci := 12) (q0 := 0) rfl rfl, fun U hU hW => ⟨rfl, En.of hU hW hP hK hD0 hN⟩⟩ rfl rfl hl.1 rfl (lv_room (Nat.le_of_ble_eq_true rfl)) dX12_off_33 ⟨Nat.le_of_ble_eq_true rfl, Nat.le_of_ble_eq_true rfl⟩) hS (fun q _ h => hFc q h) hFc (fun r_u_12 u_12 t9 H locs ht9 hvm hw hB hz1 hk1 hS => ?_)
      have hP := fr_keep hP hk1
      have wu_12 := hw
      clear hFc hk1 hz1 hB hw
      refine lv_isub hx hb dX12_off_36 ?_
      refine lv_topi (fun v_13 ev_13 => ?_)
      have q_14 : v_13.toInt = r_u_10.toInt - r_u_12.toInt := ow_sub ev_13 (by omega) (by omega)
      have hFc := fr_new hS hA
      refine va_calli (va_runS (As := [.int n3, .int 0, .int v_13]) (rest := []) ⟨hx, hb, hml, hown, ht⟩ (m_isIn l G cy _  n3 (0) v_13  ) (va_cwS 3 ht (gs k_59 k_60 k_61 k_58) rfl rfl rfl (by decide +kernel) ⟨Nat.le_of_ble_eq_true rfl, Nat.le_of_ble_eq_true rfl⟩) ⟨En.blind, fun U hU hW => ⟨rfl, En.of hU hW (va_P0 (H := _)) hK va_D0 hN⟩⟩ rfl rfl hl.1 rfl (lv_room (Nat.le_of_ble_eq_true rfl)) dX12_off_37 ⟨Nat.le_of_ble_eq_true rfl, Nat.le_of_ble_eq_true rfl⟩) hS (fun q _ h => hFc q h) hFc (fun r_u_15 u_15 t9 H locs ht9 hvm hw hB hz1 hk1 hS => ?_)
      have hP := fr_keep hP hk1
      have wu_15 := hw
      clear hFc hk1 hz1 hB hw
      refine lv_if_ne (tgt := 45) hx hb dX12_off_40 (by decide) (fun c_16 => ?_) (fun c_16 => ?_)
      · have q_17 : ¬ r_u_15.toInt = (0 : Int32).toInt := by have := (not_congr (ow_eq _ _)).mp c_16; omega
        refine lv_aload_n hx hb dX12_off_45 rfl (lv_at hl 0 rfl) ?_
        refine lv_aload_n hx hb dX12_off_46 rfl (lv_at hl 0 rfl) ?_
        refine lv_iload_n hx hb dX12_off_47 rfl (lv_at hl 1 rfl) ?_
        have hFc := fr_new hS hA
        refine va_calli (va_runV (As := [.int n]) (rest := [.ref mo]) ⟨hx, hb, hml, hown, ht⟩ (m_songOf l G cy _ mo h T v nm f g n  hv hf hR hL (by omega)) (cwV 1 ht (gv k_94 k_95 k_96 k_61 k_93) rfl rfl rfl (by decide +kernel) ⟨Nat.le_of_ble_eq_true rfl, Nat.le_of_ble_eq_true rfl⟩) ⟨En.blind, va_recv hK hP (ci := 12) (q0 := 0) rfl rfl, fun U hU hW => ⟨rfl, En.of hU hW hP hK hD0 hN⟩⟩ rfl rfl hl.1 rfl (lv_room (Nat.le_of_ble_eq_true rfl)) dX12_off_48 ⟨Nat.le_of_ble_eq_true rfl, Nat.le_of_ble_eq_true rfl⟩) hS (fun q _ h => hFc q h) hFc (fun r_u_18 u_18 t9 H locs ht9 hvm hw hB hz1 hk1 hS => ?_)
        have hP := fr_keep hP hk1
        have wu_18 := hw
        clear hFc hk1 hz1 hB hw
        refine lv_aload_n hx hb dX12_off_51 rfl (lv_at hl 0 rfl) ?_
        refine lv_iload_n hx hb dX12_off_52 rfl (lv_at hl 2 rfl) ?_
        have hFc := fr_new hS hA
        refine va_calli (va_runV (As := [.int n2]) (rest := [.int r_u_18, .ref mo]) ⟨hx, hb, hml, hown, ht⟩ (m_songOf l G cy _ mo h T v nm f g n2  hv hf hR hL (by omega)) (cwV 1 ht (gv k_94 k_95 k_96 k_61 k_93) rfl rfl rfl (by decide +kernel) ⟨Nat.le_of_ble_eq_true rfl, Nat.le_of_ble_eq_true rfl⟩) ⟨En.blind, va_recv hK hP (ci := 12) (q0 := 0) rfl rfl, fun U hU hW => ⟨rfl, En.of hU hW hP hK hD0 hN⟩⟩ rfl rfl hl.1 rfl (lv_room (Nat.le_of_ble_eq_true rfl)) dX12_off_53 ⟨Nat.le_of_ble_eq_true rfl, Nat.le_of_ble_eq_true rfl⟩) hS (fun q _ h => hFc q h) hFc (fun r_u_19 u_19 t9 H locs ht9 hvm hw hB hz1 hk1 hS => ?_)
        have hP := fr_keep hP hk1
        have wu_19 := hw
        clear hFc hk1 hz1 hB hw
        refine lv_iload_n hx hb dX12_off_56 rfl (lv_at hl 3 rfl) ?_
        have hFc := fr_new hS hA
        refine va_calli (va_runV (As := [.int r_u_18, .int r_u_19, .int n3]) (rest := []) ⟨hx, hb, hml, hown, ht⟩ (m_offAt l G cy _ mo h T v nm f g r_u_18 r_u_19 n3  hv hf hR hL (by omega) (by omega) (by omega)) (cwV 3 ht (gv k_78 k_79 k_80 k_61 k_77) rfl rfl rfl (by decide +kernel) ⟨Nat.le_of_ble_eq_true rfl, Nat.le_of_ble_eq_true rfl⟩) ⟨En.blind, va_recv hK hP (ci := 12) (q0 := 0) rfl rfl, fun U hU hW => ⟨rfl, En.of hU hW hP hK hD0 hN⟩⟩ rfl rfl hl.1 rfl (lv_room (Nat.le_of_ble_eq_true rfl)) dX12_off_57 ⟨Nat.le_of_ble_eq_true rfl, Nat.le_of_ble_eq_true rfl⟩) hS (fun q _ h => hFc q h) hFc (fun r_u_20 u_20 t9 H locs ht9 hvm hw hB hz1 hk1 hS => ?_)
        have hP := fr_keep hP hk1
        have wu_20 := hw
        clear hFc hk1 hz1 hB hw
        refine W.widen (k := 0) (n := 0) (Nat.le_of_ble_eq_true rfl) (Nat.le_of_ble_eq_true rfl) ?_
        exact W.iret (v := r_u_20) hx hb hr (fun t ht9 hW => ⟨⟨r_u_20, (), rfl, trivial, trivial⟩, hS.F ht9⟩) hS.2.2 dX12_off_60
      · have q_21 : r_u_15.toInt = (0 : Int32).toInt := (ow_eq _ _).mp c_16
        refine lv_iconst (v := (-1)) hx hb dX12_off_43 (by decide) ?_
        refine W.widen (k := 0) (n := 0) (Nat.le_of_ble_eq_true rfl) (Nat.le_of_ble_eq_true rfl) ?_
        exact W.iret (v := (-1)) hx hb hr (fun t ht9 hW => ⟨⟨(-1), (), rfl, trivial, trivial⟩, hS.F ht9⟩) hS.2.2 dX12_off_44
set_option maxHeartbeats 4000000 in
set_option maxRecDepth 100000 in
theorem m_in (l : Launch) (G : va_G) (cy : Nat → ClassId) (sz : Nat) (mo : Nat) (h : Nat → Nat) (T : Int) (v : Nat → Int32) (nm : Int64) (f : Nat → Nat → Int32) (g : Nat → Nat → Int64) (n : Int32) (n2 : Int32) (n3 : Int32)  (hv : MIv T v) (hf : MIf f) (hR : RI v f) (hL : WL v f)  : Met l yX12_in (.code yX12_in cX12_in 4 (some .int) :: TBg) ({ frames := 5, cells := 0, slots := 0, locals := 320 }) (va_Pc [.ref mo, .int n, .int n2, .int n3] (En G cy (WMs cy mo h v nm f g) sz)) (va_Qi (fun (r : Int32) (_ : Unit) => True) (fun _ _ => True) (va_A [] sz)) 0 0 (va_A [] sz) := by
  refine Met.ofW (cc := cX12_in) (maxL := 4) (ret := (some .int)) (by decide) rfl ?_
  intro p e s m args below meth c s₁ B hml hv9
  obtain ⟨rfl, hsz, hP, hK, hD0, hN⟩ := hv9
  have hx := B.exec
  have hb := B.bytes
  have hr := B.returns
  have hts := atoms_spec (ws := .code yX12_in cX12_in 4 (some .int) :: TBg) B.pre
  have ht : ∀ w ∈ TBg, w.before _ s = true := fun w h => hts w (List.mem_cons_of_mem _ h)
  have hown : s.vm.findClass RX12 = some m.cls := findClass_of_methodNamed B.named
  have hlocks := B.notSynchronized
  subst hsz
  generalize hAe : va_A [] s.heap.size = A at ⊢
  have hA : ∀ q : Nat, s.heap.size ≤ q → A q := fun q h => by rw [← hAe]; exact Or.inr h
  have hS : va_S A s.heap s.heap [] := va_S.rf
  have hl := lv_entry ([.ref mo, .int n, .int n2, .int n3]) (n := 4) (Nat.le_of_ble_eq_true rfl)
  rw [lg_entry_eq]
  generalize (lg_sl ([.ref mo, .int n, .int n2, .int n3]) ++ List.replicate (4 - (lg_sl ([.ref mo, .int n, .int n2, .int n3])).length) Slot.unset).toArray = ls at hl ⊢
  have hl : lv_has ls 4 [(0, .ref mo), (1, .int n), (2, .int n2), (3, .int n3)] := hl
  have z0 : (-1 : Int32).toInt = -1 := by decide
  have z1 : (0 : Int32).toInt = 0 := by decide
  refine lv_aload_n hx hb dX12_in_0 rfl (lv_at hl 0 rfl) ?_
  refine lv_iload_n hx hb dX12_in_1 rfl (lv_at hl 1 rfl) ?_
  have hFc := fr_new hS hA
  refine va_calli (va_runV (As := [.int n]) (rest := []) ⟨hx, hb, hml, hown, ht⟩ (m_isTune l G cy _ mo h T v nm f g n  hv hf hR hL) (cwV 1 ht (gv k_90 k_91 k_92 k_61 k_89) rfl rfl rfl (by decide +kernel) ⟨Nat.le_of_ble_eq_true rfl, Nat.le_of_ble_eq_true rfl⟩) ⟨En.blind, va_recv hK hP (ci := 12) (q0 := 0) rfl rfl, fun U hU hW => ⟨rfl, En.of hU hW hP hK hD0 hN⟩⟩ rfl rfl hl.1 rfl (lv_room (Nat.le_of_ble_eq_true rfl)) dX12_in_2 ⟨Nat.le_of_ble_eq_true rfl, Nat.le_of_ble_eq_true rfl⟩) hS (fun q _ h => hFc q h) hFc (fun r_u_1 u_1 t9 H locs ht9 hvm hw hB hz1 hk1 hS => ?_)
  have hP := fr_keep hP hk1
  have wu_1 := hw
  clear hFc hk1 hz1 hB hw
  refine lv_if_eq (tgt := 34) hx hb dX12_in_5 (by decide) (fun c_2 => ?_) (fun c_2 => ?_)
  · have q_3 : r_u_1.toInt = (0 : Int32).toInt := (ow_eq _ _).mp c_2
    refine lv_iconst (v := (-1)) hx hb dX12_in_34 (by decide) ?_
    refine W.widen (k := 0) (n := 0) (Nat.le_of_ble_eq_true rfl) (Nat.le_of_ble_eq_true rfl) ?_
    exact W.iret (v := (-1)) hx hb hr (fun t ht9 hW => ⟨⟨(-1), (), rfl, trivial, trivial⟩, hS.F ht9⟩) hS.2.2 dX12_in_35
  · have q_4 : ¬ r_u_1.toInt = (0 : Int32).toInt := by have := (not_congr (ow_eq _ _)).mp c_2; omega
    refine lv_aload_n hx hb dX12_in_8 rfl (lv_at hl 0 rfl) ?_
    refine lv_iload_n hx hb dX12_in_9 rfl (lv_at hl 2 rfl) ?_
    have hFc := fr_new hS hA
    refine va_calli (va_runV (As := [.int n2]) (rest := []) ⟨hx, hb, hml, hown, ht⟩ (m_isTune l G cy _ mo h T v nm f g n2  hv hf hR hL) (cwV 1 ht (gv k_90 k_91 k_92 k_61 k_89) rfl rfl rfl (by decide +kernel) ⟨Nat.le_of_ble_eq_true rfl, Nat.le_of_ble_eq_true rfl⟩) ⟨En.blind, va_recv hK hP (ci := 12) (q0 := 0) rfl rfl, fun U hU hW => ⟨rfl, En.of hU hW hP hK hD0 hN⟩⟩ rfl rfl hl.1 rfl (lv_room (Nat.le_of_ble_eq_true rfl)) dX12_in_10 ⟨Nat.le_of_ble_eq_true rfl, Nat.le_of_ble_eq_true rfl⟩) hS (fun q _ h => hFc q h) hFc (fun r_u_5 u_5 t9 H locs ht9 hvm hw hB hz1 hk1 hS => ?_)
    have hP := fr_keep hP hk1
    have wu_5 := hw
    clear hFc hk1 hz1 hB hw
    refine lv_if_eq (tgt := 34) hx hb dX12_in_13 (by decide) (fun c_6 => ?_) (fun c_6 => ?_)
    · have q_7 : r_u_5.toInt = (0 : Int32).toInt := (ow_eq _ _).mp c_6
      refine lv_iconst (v := (-1)) hx hb dX12_in_34 (by decide) ?_
      refine W.widen (k := 0) (n := 0) (Nat.le_of_ble_eq_true rfl) (Nat.le_of_ble_eq_true rfl) ?_
      exact W.iret (v := (-1)) hx hb hr (fun t ht9 hW => ⟨⟨(-1), (), rfl, trivial, trivial⟩, hS.F ht9⟩) hS.2.2 dX12_in_35
    · have q_8 : ¬ r_u_5.toInt = (0 : Int32).toInt := by have := (not_congr (ow_eq _ _)).mp c_6; omega
      refine lv_aload_n hx hb dX12_in_16 rfl (lv_at hl 0 rfl) ?_
      refine lv_aload_n hx hb dX12_in_17 rfl (lv_at hl 0 rfl) ?_
      refine lv_iload_n hx hb dX12_in_18 rfl (lv_at hl 1 rfl) ?_
      have hFc := fr_new hS hA
      refine va_calli (va_runV (As := [.int n]) (rest := [.ref mo]) ⟨hx, hb, hml, hown, ht⟩ (m_songOf l G cy _ mo h T v nm f g n  hv hf hR hL (by omega)) (cwV 1 ht (gv k_94 k_95 k_96 k_61 k_93) rfl rfl rfl (by decide +kernel) ⟨Nat.le_of_ble_eq_true rfl, Nat.le_of_ble_eq_true rfl⟩) ⟨En.blind, va_recv hK hP (ci := 12) (q0 := 0) rfl rfl, fun U hU hW => ⟨rfl, En.of hU hW hP hK hD0 hN⟩⟩ rfl rfl hl.1 rfl (lv_room (Nat.le_of_ble_eq_true rfl)) dX12_in_19 ⟨Nat.le_of_ble_eq_true rfl, Nat.le_of_ble_eq_true rfl⟩) hS (fun q _ h => hFc q h) hFc (fun r_u_9 u_9 t9 H locs ht9 hvm hw hB hz1 hk1 hS => ?_)
      have hP := fr_keep hP hk1
      have wu_9 := hw
      clear hFc hk1 hz1 hB hw
      refine lv_aload_n hx hb dX12_in_22 rfl (lv_at hl 0 rfl) ?_
      refine lv_iload_n hx hb dX12_in_23 rfl (lv_at hl 2 rfl) ?_
      have hFc := fr_new hS hA
      refine va_calli (va_runV (As := [.int n2]) (rest := [.int r_u_9, .ref mo]) ⟨hx, hb, hml, hown, ht⟩ (m_songOf l G cy _ mo h T v nm f g n2  hv hf hR hL (by omega)) (cwV 1 ht (gv k_94 k_95 k_96 k_61 k_93) rfl rfl rfl (by decide +kernel) ⟨Nat.le_of_ble_eq_true rfl, Nat.le_of_ble_eq_true rfl⟩) ⟨En.blind, va_recv hK hP (ci := 12) (q0 := 0) rfl rfl, fun U hU hW => ⟨rfl, En.of hU hW hP hK hD0 hN⟩⟩ rfl rfl hl.1 rfl (lv_room (Nat.le_of_ble_eq_true rfl)) dX12_in_24 ⟨Nat.le_of_ble_eq_true rfl, Nat.le_of_ble_eq_true rfl⟩) hS (fun q _ h => hFc q h) hFc (fun r_u_10 u_10 t9 H locs ht9 hvm hw hB hz1 hk1 hS => ?_)
      have hP := fr_keep hP hk1
      have wu_10 := hw
      clear hFc hk1 hz1 hB hw
      refine lv_iload_n hx hb dX12_in_27 rfl (lv_at hl 3 rfl) ?_
      have hFc := fr_new hS hA
      refine va_calli (va_runV (As := [.int r_u_9, .int r_u_10, .int n3]) (rest := []) ⟨hx, hb, hml, hown, ht⟩ (m_inWhat l G cy _ mo h T v nm f g r_u_9 r_u_10 n3  hv hf hR hL (by omega) (by omega)) (cwV 3 ht (gv k_99 k_100 k_101 k_61 k_98) rfl rfl rfl (by decide +kernel) ⟨Nat.le_of_ble_eq_true rfl, Nat.le_of_ble_eq_true rfl⟩) ⟨En.blind, va_recv hK hP (ci := 12) (q0 := 0) rfl rfl, fun U hU hW => ⟨rfl, En.of hU hW hP hK hD0 hN⟩⟩ rfl rfl hl.1 rfl (lv_room (Nat.le_of_ble_eq_true rfl)) dX12_in_28 ⟨Nat.le_of_ble_eq_true rfl, Nat.le_of_ble_eq_true rfl⟩) hS (fun q _ h => hFc q h) hFc (fun r_u_11 u_11 t9 H locs ht9 hvm hw hB hz1 hk1 hS => ?_)
      have hP := fr_keep hP hk1
      have wu_11 := hw
      clear hFc hk1 hz1 hB hw
      refine lv_goto (tgt := 35) hx hb dX12_in_31 (by decide) ?_
      refine W.widen (k := 0) (n := 0) (Nat.le_of_ble_eq_true rfl) (Nat.le_of_ble_eq_true rfl) ?_
      exact W.iret (v := r_u_11) hx hb hr (fun t ht9 hW => ⟨⟨r_u_11, (), rfl, trivial, trivial⟩, hS.F ht9⟩) hS.2.2 dX12_in_35
