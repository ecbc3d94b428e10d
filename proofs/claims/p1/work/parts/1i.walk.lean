theorem k_334 : (Cond.fieldLink RX12 224 "TuneLocksModel" "taped" "I") ∈ TBg := tb_mem 1019 (by decide +kernel) (by decide +kernel)
theorem k_335 : (Cond.code yX12_isTune cX12_isTune 2 (some .boolean)) ∈ TBg := tb_mem 1334 (by decide +kernel) (by decide +kernel)
theorem k_336 : (Cond.methodLink RX12 338 yX12_isTune) ∈ TBg := tb_mem 1331 (by decide +kernel) (by decide +kernel)
theorem k_337 : (Cond.instanceMethod yX12_isTune) ∈ TBg := tb_mem 1333 (by decide +kernel) (by decide +kernel)
theorem k_338 : (Cond.selects RX12 yX12_isTune yX12_isTune) ∈ TBg := tb_mem 57 (by decide +kernel) (by decide +kernel)
theorem k_339 : (Cond.constant RX12 344 (-1000000)) ∈ TBg := tb_mem 1354 (by decide +kernel) (by decide +kernel)
theorem k_340 : (Cond.code yX12_isLock cX12_isLock 2 (some .boolean)) ∈ TBg := tb_mem 1420 (by decide +kernel) (by decide +kernel)
theorem k_341 : (Cond.methodLink RX12 369 yX12_isLock) ∈ TBg := tb_mem 1417 (by decide +kernel) (by decide +kernel)
theorem k_342 : (Cond.instanceMethod yX12_isLock) ∈ TBg := tb_mem 1419 (by decide +kernel) (by decide +kernel)
theorem k_343 : (Cond.selects RX12 yX12_isLock yX12_isLock) ∈ TBg := tb_mem 71 (by decide +kernel) (by decide +kernel)
theorem k_344 : (Cond.code yX12_bitsOf cX12_bitsOf 3 (some .int)) ∈ TBg := tb_mem 1427 (by decide +kernel) (by decide +kernel)
theorem k_345 : (Cond.methodLink RX12 372 yX12_bitsOf) ∈ TBg := tb_mem 1425 (by decide +kernel) (by decide +kernel)
theorem k_346 : (Cond.static yX12_bitsOf) ∈ TBg := tb_mem 1426 (by decide +kernel) (by decide +kernel)
theorem k_347 : (Cond.code yX12_keepTunes cX12_keepTunes 5 none) ∈ TBg := tb_mem 1435 (by decide +kernel) (by decide +kernel)
theorem k_348 : (Cond.methodLink RX12 394 yX12_keepTunes) ∈ TBg := tb_mem 1432 (by decide +kernel) (by decide +kernel)
theorem k_349 : (Cond.instanceMethod yX12_keepTunes) ∈ TBg := tb_mem 1434 (by decide +kernel) (by decide +kernel)
theorem k_350 : (Cond.selects RX12 yX12_keepTunes yX12_keepTunes) ∈ TBg := tb_mem 72 (by decide +kernel) (by decide +kernel)
theorem k_351 : (Cond.code yX12_layMaster cX12_layMaster 4 none) ∈ TBg := tb_mem 1451 (by decide +kernel) (by decide +kernel)
theorem k_352 : (Cond.methodLink RX12 398 yX12_layMaster) ∈ TBg := tb_mem 1448 (by decide +kernel) (by decide +kernel)
theorem k_353 : (Cond.instanceMethod yX12_layMaster) ∈ TBg := tb_mem 1450 (by decide +kernel) (by decide +kernel)
theorem k_354 : (Cond.selects RX12 yX12_layMaster yX12_layMaster) ∈ TBg := tb_mem 76 (by decide +kernel) (by decide +kernel)
theorem k_355 : (Cond.fieldLink RX12 236 "TuneLocksModel" "voice" "I") ∈ TBg := tb_mem 1051 (by decide +kernel) (by decide +kernel)
theorem k_356 : (Cond.fieldLink RX12 239 "TuneLocksModel" "isNight" "Z") ∈ TBg := tb_mem 1054 (by decide +kernel) (by decide +kernel)
theorem k_357 : (Cond.fieldLink RX12 233 "TuneLocksModel" "watches" "I") ∈ TBg := tb_mem 1067 (by decide +kernel) (by decide +kernel)
theorem k_358 : (Cond.fieldLink RX12 423 "TuneLocksModel" "time" "I") ∈ TBg := tb_mem 1068 (by decide +kernel) (by decide +kernel)
theorem k_359 : (Cond.constant RX12 426 (100000)) ∈ TBg := tb_mem 1536 (by decide +kernel) (by decide +kernel)
theorem k_360 : (Cond.code yX12_left cX12_left 6 (some .int)) ∈ TBg := tb_mem 1540 (by decide +kernel) (by decide +kernel)
theorem k_361 : (Cond.methodLink RX12 427 yX12_left) ∈ TBg := tb_mem 1545 (by decide +kernel) (by decide +kernel)
theorem k_362 : (Cond.instanceMethod yX12_left) ∈ TBg := tb_mem 1538 (by decide +kernel) (by decide +kernel)
theorem k_363 : (Cond.selects RX12 yX12_left yX12_left) ∈ TBg := tb_mem 1539 (by decide +kernel) (by decide +kernel)
theorem dX12_end_0 : decode cX12_end 0 = .ok (.iload_n 1, 1) := by decide +kernel
theorem dX12_end_1 : decode cX12_end 1 = .ok (.ifCond .lt 11, 3) := by decide +kernel
theorem dX12_end_4 : decode cX12_end 4 = .ok (.iload_n 1, 1) := by decide +kernel
theorem dX12_end_5 : decode cX12_end 5 = .ok (.aload_n 0, 1) := by decide +kernel
theorem dX12_end_6 : decode cX12_end 6 = .ok (.getfield 224, 3) := by decide +kernel
theorem dX12_end_9 : decode cX12_end 9 = .ok (.if_icmp .le 5, 3) := by decide +kernel
theorem dX12_end_14 : decode cX12_end 14 = .ok (.aload_n 0, 1) := by decide +kernel
theorem dX12_end_15 : decode cX12_end 15 = .ok (.iload_n 1, 1) := by decide +kernel
theorem dX12_end_16 : decode cX12_end 16 = .ok (.putfield 224, 3) := by decide +kernel
theorem dX12_end_19 : decode cX12_end 19 = .ok (.iload_n 1, 1) := by decide +kernel
theorem dX12_end_20 : decode cX12_end 20 = .ok (.ireturn, 1) := by decide +kernel
theorem dX12_end_12 : decode cX12_end 12 = .ok (.iconst (-1), 1) := by decide +kernel
theorem dX12_end_13 : decode cX12_end 13 = .ok (.ireturn, 1) := by decide +kernel
theorem dX12_fault_0 : decode cX12_fault 0 = .ok (.iload_n 1, 1) := by decide +kernel
theorem dX12_fault_1 : decode cX12_fault 1 = .ok (.ifCond .ne 10, 3) := by decide +kernel
theorem dX12_fault_4 : decode cX12_fault 4 = .ok (.aload_n 0, 1) := by decide +kernel
theorem dX12_fault_5 : decode cX12_fault 5 = .ok (.getfield 137, 3) := by decide +kernel
theorem dX12_fault_8 : decode cX12_fault 8 = .ok (.goto 16, 3) := by decide +kernel
theorem dX12_fault_24 : decode cX12_fault 24 = .ok (.ireturn, 1) := by decide +kernel
theorem dX12_fault_11 : decode cX12_fault 11 = .ok (.iload_n 1, 1) := by decide +kernel
theorem dX12_fault_12 : decode cX12_fault 12 = .ok (.iconst 1, 1) := by decide +kernel
theorem dX12_fault_13 : decode cX12_fault 13 = .ok (.if_icmp .ne 10, 3) := by decide +kernel
theorem dX12_fault_16 : decode cX12_fault 16 = .ok (.aload_n 0, 1) := by decide +kernel
theorem dX12_fault_17 : decode cX12_fault 17 = .ok (.getfield 16, 3) := by decide +kernel
theorem dX12_fault_20 : decode cX12_fault 20 = .ok (.goto 4, 3) := by decide +kernel
theorem dX12_fault_23 : decode cX12_fault 23 = .ok (.iconst (-1), 1) := by decide +kernel
theorem dX12_notes_0 : decode cX12_notes 0 = .ok (.aload_n 0, 1) := by decide +kernel
theorem dX12_notes_1 : decode cX12_notes 1 = .ok (.iload_n 1, 1) := by decide +kernel
theorem dX12_notes_2 : decode cX12_notes 2 = .ok (.invokevirtual 338, 3) := by decide +kernel
theorem dX12_notes_5 : decode cX12_notes 5 = .ok (.ifCond .eq 15, 3) := by decide +kernel
theorem dX12_notes_20 : decode cX12_notes 20 = .ok (.iconst (-1), 1) := by decide +kernel
theorem dX12_notes_21 : decode cX12_notes 21 = .ok (.ireturn, 1) := by decide +kernel
theorem dX12_step_0 : decode cX12_step 0 = .ok (.aload_n 0, 1) := by decide +kernel
theorem dX12_step_1 : decode cX12_step 1 = .ok (.iload_n 1, 1) := by decide +kernel
theorem dX12_step_2 : decode cX12_step 2 = .ok (.invokevirtual 338, 3) := by decide +kernel
theorem dX12_step_5 : decode cX12_step 5 = .ok (.ifCond .eq 35, 3) := by decide +kernel
theorem dX12_step_40 : decode cX12_step 40 = .ok (.ldc_w 344, 3) := by decide +kernel
theorem dX12_step_43 : decode cX12_step 43 = .ok (.ireturn, 1) := by decide +kernel
theorem dX12_off_0 : decode cX12_off 0 = .ok (.aload_n 0, 1) := by decide +kernel
theorem dX12_off_1 : decode cX12_off 1 = .ok (.iload_n 1, 1) := by decide +kernel
theorem dX12_off_2 : decode cX12_off 2 = .ok (.invokevirtual 338, 3) := by decide +kernel
theorem dX12_off_5 : decode cX12_off 5 = .ok (.ifCond .eq 38, 3) := by decide +kernel
theorem dX12_off_43 : decode cX12_off 43 = .ok (.iconst (-1), 1) := by decide +kernel
theorem dX12_off_44 : decode cX12_off 44 = .ok (.ireturn, 1) := by decide +kernel
theorem dX12_in_0 : decode cX12_in 0 = .ok (.aload_n 0, 1) := by decide +kernel
theorem dX12_in_1 : decode cX12_in 1 = .ok (.iload_n 1, 1) := by decide +kernel
theorem dX12_in_2 : decode cX12_in 2 = .ok (.invokevirtual 338, 3) := by decide +kernel
theorem dX12_in_5 : decode cX12_in 5 = .ok (.ifCond .eq 29, 3) := by decide +kernel
theorem dX12_in_34 : decode cX12_in 34 = .ok (.iconst (-1), 1) := by decide +kernel
theorem dX12_in_35 : decode cX12_in 35 = .ok (.ireturn, 1) := by decide +kernel
theorem dX12_doors_0 : decode cX12_doors 0 = .ok (.aload_n 0, 1) := by decide +kernel
theorem dX12_doors_1 : decode cX12_doors 1 = .ok (.iload_n 1, 1) := by decide +kernel
theorem dX12_doors_2 : decode cX12_doors 2 = .ok (.invokevirtual 338, 3) := by decide +kernel
theorem dX12_doors_5 : decode cX12_doors 5 = .ok (.ifCond .ne 5, 3) := by decide +kernel
theorem dX12_doors_8 : decode cX12_doors 8 = .ok (.iconst (-1), 1) := by decide +kernel
theorem dX12_doors_9 : decode cX12_doors 9 = .ok (.ireturn, 1) := by decide +kernel
theorem dX12_asked_0 : decode cX12_asked 0 = .ok (.aload_n 0, 1) := by decide +kernel
theorem dX12_asked_1 : decode cX12_asked 1 = .ok (.iload_n 1, 1) := by decide +kernel
theorem dX12_asked_2 : decode cX12_asked 2 = .ok (.invokevirtual 369, 3) := by decide +kernel
theorem dX12_asked_5 : decode cX12_asked 5 = .ok (.ifCond .eq 31, 3) := by decide +kernel
theorem dX12_asked_36 : decode cX12_asked 36 = .ok (.ldc_w 344, 3) := by decide +kernel
theorem dX12_asked_39 : decode cX12_asked 39 = .ok (.ireturn, 1) := by decide +kernel
theorem dX12_dealt_0 : decode cX12_dealt 0 = .ok (.iload_n 1, 1) := by decide +kernel
theorem dX12_dealt_1 : decode cX12_dealt 1 = .ok (.iconst 0, 1) := by decide +kernel
theorem dX12_dealt_2 : decode cX12_dealt 2 = .ok (.bipush 99, 2) := by decide +kernel
theorem dX12_dealt_4 : decode cX12_dealt 4 = .ok (.invokestatic 311, 3) := by decide +kernel
theorem dX12_dealt_7 : decode cX12_dealt 7 = .ok (.ifCond .ne 5, 3) := by decide +kernel
theorem dX12_dealt_12 : decode cX12_dealt 12 = .ok (.aload_n 0, 1) := by decide +kernel
theorem dX12_dealt_13 : decode cX12_dealt 13 = .ok (.getfield 20, 3) := by decide +kernel
theorem dX12_dealt_16 : decode cX12_dealt 16 = .ok (.aload_n 0, 1) := by decide +kernel
theorem dX12_dealt_17 : decode cX12_dealt 17 = .ok (.getfield 227, 3) := by decide +kernel
theorem dX12_dealt_20 : decode cX12_dealt 20 = .ok (.iaload, 1) := by decide +kernel
theorem dX12_dealt_21 : decode cX12_dealt 21 = .ok (.istore_n 2, 1) := by decide +kernel
theorem dX12_dealt_22 : decode cX12_dealt 22 = .ok (.iconst 0, 1) := by decide +kernel
theorem dX12_dealt_23 : decode cX12_dealt 23 = .ok (.istore_n 3, 1) := by decide +kernel
theorem dX12_dealt_24 : decode cX12_dealt 24 = .ok (.iload_n 3, 1) := by decide +kernel
theorem dX12_dealt_25 : decode cX12_dealt 25 = .ok (.iload_n 2, 1) := by decide +kernel
theorem dX12_dealt_26 : decode cX12_dealt 26 = .ok (.if_icmp .ge 88, 3) := by decide +kernel
theorem dX12_dealt_114 : decode cX12_dealt 114 = .ok (.iconst 0, 1) := by decide +kernel
theorem dX12_dealt_115 : decode cX12_dealt 115 = .ok (.istore_n 3, 1) := by decide +kernel
theorem dX12_dealt_116 : decode cX12_dealt 116 = .ok (.iconst 1, 1) := by decide +kernel
theorem dX12_dealt_117 : decode cX12_dealt 117 = .ok (.istore 4, 2) := by decide +kernel
theorem dX12_dealt_119 : decode cX12_dealt 119 = .ok (.iload 4, 2) := by decide +kernel
theorem dX12_dealt_121 : decode cX12_dealt 121 = .ok (.iconst 1, 1) := by decide +kernel
theorem dX12_dealt_122 : decode cX12_dealt 122 = .ok (.iload_n 2, 1) := by decide +kernel
theorem dX12_dealt_123 : decode cX12_dealt 123 = .ok (.ishl, 1) := by decide +kernel
theorem dX12_dealt_124 : decode cX12_dealt 124 = .ok (.if_icmp .ge 85, 3) := by decide +kernel
theorem dX12_dealt_209 : decode cX12_dealt 209 = .ok (.iload_n 3, 1) := by decide +kernel
theorem dX12_dealt_210 : decode cX12_dealt 210 = .ok (.ireturn, 1) := by decide +kernel
theorem dX12_dealt_10 : decode cX12_dealt 10 = .ok (.iconst (-1), 1) := by decide +kernel
theorem dX12_dealt_11 : decode cX12_dealt 11 = .ok (.ireturn, 1) := by decide +kernel
theorem dX12_master_0 : decode cX12_master 0 = .ok (.iload_n 1, 1) := by decide +kernel
theorem dX12_master_1 : decode cX12_master 1 = .ok (.ifCond .lt 28, 3) := by decide +kernel
theorem dX12_master_4 : decode cX12_master 4 = .ok (.iload_n 1, 1) := by decide +kernel
theorem dX12_master_5 : decode cX12_master 5 = .ok (.iconst 1, 1) := by decide +kernel
theorem dX12_master_6 : decode cX12_master 6 = .ok (.aload_n 0, 1) := by decide +kernel
theorem dX12_master_7 : decode cX12_master 7 = .ok (.getfield 20, 3) := by decide +kernel
theorem dX12_master_10 : decode cX12_master 10 = .ok (.aload_n 0, 1) := by decide +kernel
theorem dX12_master_11 : decode cX12_master 11 = .ok (.getfield 227, 3) := by decide +kernel
theorem dX12_master_14 : decode cX12_master 14 = .ok (.iaload, 1) := by decide +kernel
theorem dX12_master_15 : decode cX12_master 15 = .ok (.ishl, 1) := by decide +kernel
theorem dX12_master_16 : decode cX12_master 16 = .ok (.if_icmp .ge 13, 3) := by decide +kernel
theorem dX12_master_19 : decode cX12_master 19 = .ok (.iload_n 2, 1) := by decide +kernel
theorem dX12_master_20 : decode cX12_master 20 = .ok (.iconst 0, 1) := by decide +kernel
theorem dX12_master_21 : decode cX12_master 21 = .ok (.bipush 6, 2) := by decide +kernel
theorem dX12_master_23 : decode cX12_master 23 = .ok (.invokestatic 311, 3) := by decide +kernel
theorem dX12_master_26 : decode cX12_master 26 = .ok (.ifCond .ne 5, 3) := by decide +kernel
theorem dX12_master_31 : decode cX12_master 31 = .ok (.iload_n 1, 1) := by decide +kernel
theorem dX12_master_32 : decode cX12_master 32 = .ok (.invokestatic 372, 3) := by decide +kernel
theorem dX12_master_35 : decode cX12_master 35 = .ok (.bipush 6, 2) := by decide +kernel
theorem dX12_master_37 : decode cX12_master 37 = .ok (.if_icmp .le 6, 3) := by decide +kernel
theorem dX12_master_43 : decode cX12_master 43 = .ok (.aload_n 0, 1) := by decide +kernel
theorem dX12_master_44 : decode cX12_master 44 = .ok (.iload_n 1, 1) := by decide +kernel
theorem dX12_master_45 : decode cX12_master 45 = .ok (.invokevirtual 394, 3) := by decide +kernel
theorem dX12_master_48 : decode cX12_master 48 = .ok (.aload_n 0, 1) := by decide +kernel
theorem dX12_master_49 : decode cX12_master 49 = .ok (.invokevirtual 398, 3) := by decide +kernel
theorem dX12_master_52 : decode cX12_master 52 = .ok (.iload_n 2, 1) := by decide +kernel
theorem dX12_master_53 : decode cX12_master 53 = .ok (.ifCond .ne 10, 3) := by decide +kernel
theorem dX12_master_63 : decode cX12_master 63 = .ok (.iload_n 2, 1) := by decide +kernel
theorem dX12_master_64 : decode cX12_master 64 = .ok (.aload_n 0, 1) := by decide +kernel
theorem dX12_master_65 : decode cX12_master 65 = .ok (.getfield 378, 3) := by decide +kernel
theorem dX12_master_68 : decode cX12_master 68 = .ok (.if_icmp .gt 14, 3) := by decide +kernel
theorem dX12_master_82 : decode cX12_master 82 = .ok (.iconst (-1), 1) := by decide +kernel
theorem dX12_master_83 : decode cX12_master 83 = .ok (.ireturn, 1) := by decide +kernel
theorem dX12_master_56 : decode cX12_master 56 = .ok (.aload_n 0, 1) := by decide +kernel
theorem dX12_master_57 : decode cX12_master 57 = .ok (.getfield 388, 3) := by decide +kernel
theorem dX12_master_60 : decode cX12_master 60 = .ok (.goto 23, 3) := by decide +kernel
theorem dX12_master_29 : decode cX12_master 29 = .ok (.iconst (-1), 1) := by decide +kernel
theorem dX12_master_30 : decode cX12_master 30 = .ok (.ireturn, 1) := by decide +kernel
theorem dX12_round_0 : decode cX12_round 0 = .ok (.aload_n 0, 1) := by decide +kernel
theorem dX12_round_1 : decode cX12_round 1 = .ok (.iload_n 1, 1) := by decide +kernel
theorem dX12_round_2 : decode cX12_round 2 = .ok (.invokevirtual 338, 3) := by decide +kernel
theorem dX12_round_5 : decode cX12_round 5 = .ok (.ifCond .eq 26, 3) := by decide +kernel
theorem dX12_round_31 : decode cX12_round 31 = .ok (.iconst (-1), 1) := by decide +kernel
theorem dX12_round_32 : decode cX12_round 32 = .ok (.ireturn, 1) := by decide +kernel
theorem dX12_good_0 : decode cX12_good 0 = .ok (.aload_n 0, 1) := by decide +kernel
theorem dX12_good_1 : decode cX12_good 1 = .ok (.iload_n 1, 1) := by decide +kernel
theorem dX12_good_2 : decode cX12_good 2 = .ok (.invokevirtual 338, 3) := by decide +kernel
theorem dX12_good_5 : decode cX12_good 5 = .ok (.ifCond .eq 12, 3) := by decide +kernel
theorem dX12_good_17 : decode cX12_good 17 = .ok (.iconst (-1), 1) := by decide +kernel
theorem dX12_good_18 : decode cX12_good 18 = .ok (.ireturn, 1) := by decide +kernel
theorem dX12_deaf_0 : decode cX12_deaf 0 = .ok (.aload_n 0, 1) := by decide +kernel
theorem dX12_deaf_1 : decode cX12_deaf 1 = .ok (.iload_n 1, 1) := by decide +kernel
theorem dX12_deaf_2 : decode cX12_deaf 2 = .ok (.invokevirtual 338, 3) := by decide +kernel
theorem dX12_deaf_5 : decode cX12_deaf 5 = .ok (.ifCond .eq 21, 3) := by decide +kernel
theorem dX12_deaf_26 : decode cX12_deaf 26 = .ok (.iconst (-1), 1) := by decide +kernel
theorem dX12_deaf_27 : decode cX12_deaf 27 = .ok (.ireturn, 1) := by decide +kernel
theorem dX12_least_0 : decode cX12_least 0 = .ok (.aload_n 0, 1) := by decide +kernel
theorem dX12_least_1 : decode cX12_least 1 = .ok (.iload_n 1, 1) := by decide +kernel
theorem dX12_least_2 : decode cX12_least 2 = .ok (.invokevirtual 369, 3) := by decide +kernel
theorem dX12_least_5 : decode cX12_least 5 = .ok (.ifCond .ne 5, 3) := by decide +kernel
theorem dX12_least_8 : decode cX12_least 8 = .ok (.iconst (-1), 1) := by decide +kernel
theorem dX12_least_9 : decode cX12_least 9 = .ok (.ireturn, 1) := by decide +kernel
theorem dX12_sing_0 : decode cX12_sing 0 = .ok (.iload_n 1, 1) := by decide +kernel
theorem dX12_sing_1 : decode cX12_sing 1 = .ok (.iconst 0, 1) := by decide +kernel
theorem dX12_sing_2 : decode cX12_sing 2 = .ok (.bipush 60, 2) := by decide +kernel
theorem dX12_sing_4 : decode cX12_sing 4 = .ok (.invokestatic 311, 3) := by decide +kernel
theorem dX12_sing_7 : decode cX12_sing 7 = .ok (.ifCond .eq 22, 3) := by decide +kernel
theorem dX12_sing_29 : decode cX12_sing 29 = .ok (.iconst (-1), 1) := by decide +kernel
theorem dX12_sing_30 : decode cX12_sing 30 = .ok (.ireturn, 1) := by decide +kernel
theorem dX12_sing_10 : decode cX12_sing 10 = .ok (.iload_n 2, 1) := by decide +kernel
theorem dX12_sing_11 : decode cX12_sing 11 = .ok (.iconst 1, 1) := by decide +kernel
theorem dX12_sing_12 : decode cX12_sing 12 = .ok (.bipush 9, 2) := by decide +kernel
theorem dX12_sing_14 : decode cX12_sing 14 = .ok (.invokestatic 311, 3) := by decide +kernel
theorem dX12_sing_17 : decode cX12_sing 17 = .ok (.ifCond .eq 12, 3) := by decide +kernel
theorem dX12_sing_20 : decode cX12_sing 20 = .ok (.aload_n 0, 1) := by decide +kernel
theorem dX12_sing_21 : decode cX12_sing 21 = .ok (.getfield 236, 3) := by decide +kernel
theorem dX12_sing_24 : decode cX12_sing 24 = .ok (.bipush 40, 2) := by decide +kernel
theorem dX12_sing_26 : decode cX12_sing 26 = .ok (.if_icmp .ne 5, 3) := by decide +kernel
theorem dX12_sing_31 : decode cX12_sing 31 = .ok (.aload_n 0, 1) := by decide +kernel
theorem dX12_sing_32 : decode cX12_sing 32 = .ok (.getfield 36, 3) := by decide +kernel
theorem dX12_sing_35 : decode cX12_sing 35 = .ok (.sipush 1120, 3) := by decide +kernel
theorem dX12_sing_38 : decode cX12_sing 38 = .ok (.aload_n 0, 1) := by decide +kernel
theorem dX12_sing_39 : decode cX12_sing 39 = .ok (.getfield 236, 3) := by decide +kernel
theorem dX12_sing_42 : decode cX12_sing 42 = .ok (.iadd, 1) := by decide +kernel
theorem dX12_sing_43 : decode cX12_sing 43 = .ok (.iload_n 1, 1) := by decide +kernel
theorem dX12_sing_44 : decode cX12_sing 44 = .ok (.iastore, 1) := by decide +kernel
theorem dX12_sing_45 : decode cX12_sing 45 = .ok (.aload_n 0, 1) := by decide +kernel
theorem dX12_sing_46 : decode cX12_sing 46 = .ok (.getfield 39, 3) := by decide +kernel
theorem dX12_sing_49 : decode cX12_sing 49 = .ok (.sipush 1120, 3) := by decide +kernel
theorem dX12_sing_52 : decode cX12_sing 52 = .ok (.aload_n 0, 1) := by decide +kernel
theorem dX12_sing_53 : decode cX12_sing 53 = .ok (.getfield 236, 3) := by decide +kernel
theorem dX12_sing_56 : decode cX12_sing 56 = .ok (.iadd, 1) := by decide +kernel
theorem dX12_sing_57 : decode cX12_sing 57 = .ok (.iload_n 2, 1) := by decide +kernel
theorem dX12_sing_58 : decode cX12_sing 58 = .ok (.iastore, 1) := by decide +kernel
theorem dX12_sing_59 : decode cX12_sing 59 = .ok (.aload_n 0, 1) := by decide +kernel
theorem dX12_sing_60 : decode cX12_sing 60 = .ok (.dup, 1) := by decide +kernel
theorem dX12_sing_61 : decode cX12_sing 61 = .ok (.getfield 236, 3) := by decide +kernel
theorem dX12_sing_64 : decode cX12_sing 64 = .ok (.iconst 1, 1) := by decide +kernel
theorem dX12_sing_65 : decode cX12_sing 65 = .ok (.iadd, 1) := by decide +kernel
theorem dX12_sing_66 : decode cX12_sing 66 = .ok (.putfield 236, 3) := by decide +kernel
theorem dX12_sing_69 : decode cX12_sing 69 = .ok (.iconst 0, 1) := by decide +kernel
theorem dX12_sing_70 : decode cX12_sing 70 = .ok (.istore_n 3, 1) := by decide +kernel
theorem dX12_sing_71 : decode cX12_sing 71 = .ok (.iconst 0, 1) := by decide +kernel
theorem dX12_sing_72 : decode cX12_sing 72 = .ok (.istore 4, 2) := by decide +kernel
theorem dX12_sing_74 : decode cX12_sing 74 = .ok (.iload 4, 2) := by decide +kernel
theorem dX12_sing_76 : decode cX12_sing 76 = .ok (.aload_n 0, 1) := by decide +kernel
theorem dX12_sing_77 : decode cX12_sing 77 = .ok (.getfield 24, 3) := by decide +kernel
theorem dX12_sing_80 : decode cX12_sing 80 = .ok (.aload_n 0, 1) := by decide +kernel
theorem dX12_sing_81 : decode cX12_sing 81 = .ok (.getfield 227, 3) := by decide +kernel
theorem dX12_sing_84 : decode cX12_sing 84 = .ok (.iaload, 1) := by decide +kernel
theorem dX12_sing_85 : decode cX12_sing 85 = .ok (.if_icmp .ge 70, 3) := by decide +kernel
theorem dX12_sing_155 : decode cX12_sing 155 = .ok (.iload_n 3, 1) := by decide +kernel
theorem dX12_sing_156 : decode cX12_sing 156 = .ok (.ireturn, 1) := by decide +kernel
theorem dX12_song_0 : decode cX12_song 0 = .ok (.aload_n 0, 1) := by decide +kernel
theorem dX12_song_1 : decode cX12_song 1 = .ok (.iload_n 1, 1) := by decide +kernel
theorem dX12_song_2 : decode cX12_song 2 = .ok (.invokevirtual 338, 3) := by decide +kernel
theorem dX12_song_5 : decode cX12_song 5 = .ok (.ifCond .eq 33, 3) := by decide +kernel
theorem dX12_song_38 : decode cX12_song 38 = .ok (.iconst (-1), 1) := by decide +kernel
theorem dX12_song_39 : decode cX12_song 39 = .ok (.ireturn, 1) := by decide +kernel
theorem dX12_silence_0 : decode cX12_silence 0 = .ok (.aload_n 0, 1) := by decide +kernel
theorem dX12_silence_1 : decode cX12_silence 1 = .ok (.getfield 236, 3) := by decide +kernel
theorem dX12_silence_4 : decode cX12_silence 4 = .ok (.istore_n 1, 1) := by decide +kernel
theorem dX12_silence_5 : decode cX12_silence 5 = .ok (.aload_n 0, 1) := by decide +kernel
theorem dX12_silence_6 : decode cX12_silence 6 = .ok (.iconst 0, 1) := by decide +kernel
theorem dX12_silence_7 : decode cX12_silence 7 = .ok (.putfield 236, 3) := by decide +kernel
theorem dX12_silence_10 : decode cX12_silence 10 = .ok (.iload_n 1, 1) := by decide +kernel
theorem dX12_silence_11 : decode cX12_silence 11 = .ok (.ireturn, 1) := by decide +kernel
theorem dX12_shut_0 : decode cX12_shut 0 = .ok (.aload_n 0, 1) := by decide +kernel
theorem dX12_shut_1 : decode cX12_shut 1 = .ok (.iload_n 1, 1) := by decide +kernel
theorem dX12_shut_2 : decode cX12_shut 2 = .ok (.invokevirtual 369, 3) := by decide +kernel
theorem dX12_shut_5 : decode cX12_shut 5 = .ok (.ifCond .eq 12, 3) := by decide +kernel
theorem dX12_shut_17 : decode cX12_shut 17 = .ok (.iconst 0, 1) := by decide +kernel
theorem dX12_shut_18 : decode cX12_shut 18 = .ok (.ireturn, 1) := by decide +kernel
theorem dX12_night_0 : decode cX12_night 0 = .ok (.aload_n 0, 1) := by decide +kernel
theorem dX12_night_1 : decode cX12_night 1 = .ok (.getfield 239, 3) := by decide +kernel
theorem dX12_night_4 : decode cX12_night 4 = .ok (.istore_n 2, 1) := by decide +kernel
theorem dX12_night_5 : decode cX12_night 5 = .ok (.aload_n 0, 1) := by decide +kernel
theorem dX12_night_6 : decode cX12_night 6 = .ok (.iload_n 1, 1) := by decide +kernel
theorem dX12_night_7 : decode cX12_night 7 = .ok (.putfield 239, 3) := by decide +kernel
theorem dX12_night_10 : decode cX12_night 10 = .ok (.iload_n 2, 1) := by decide +kernel
theorem dX12_night_11 : decode cX12_night 11 = .ok (.iload_n 1, 1) := by decide +kernel
theorem dX12_night_12 : decode cX12_night 12 = .ok (.if_icmp .eq 7, 3) := by decide +kernel
theorem dX12_night_19 : decode cX12_night 19 = .ok (.iconst 0, 1) := by decide +kernel
theorem dX12_night_20 : decode cX12_night 20 = .ok (.ireturn, 1) := by decide +kernel
theorem dX12_night_15 : decode cX12_night 15 = .ok (.iconst 1, 1) := by decide +kernel
theorem dX12_night_16 : decode cX12_night 16 = .ok (.goto 4, 3) := by decide +kernel
theorem dX12_lock_0 : decode cX12_lock 0 = .ok (.aload_n 0, 1) := by decide +kernel
theorem dX12_lock_1 : decode cX12_lock 1 = .ok (.iload_n 1, 1) := by decide +kernel
theorem dX12_lock_2 : decode cX12_lock 2 = .ok (.invokevirtual 369, 3) := by decide +kernel
theorem dX12_lock_5 : decode cX12_lock 5 = .ok (.ifCond .ne 5, 3) := by decide +kernel
theorem dX12_lock_8 : decode cX12_lock 8 = .ok (.iconst (-1), 1) := by decide +kernel
theorem dX12_lock_9 : decode cX12_lock 9 = .ok (.ireturn, 1) := by decide +kernel
theorem dX12_heard_0 : decode cX12_heard 0 = .ok (.aload_n 0, 1) := by decide +kernel
theorem dX12_heard_1 : decode cX12_heard 1 = .ok (.iload_n 1, 1) := by decide +kernel
theorem dX12_heard_2 : decode cX12_heard 2 = .ok (.invokevirtual 338, 3) := by decide +kernel
theorem dX12_heard_5 : decode cX12_heard 5 = .ok (.ifCond .eq 18, 3) := by decide +kernel
theorem dX12_heard_23 : decode cX12_heard 23 = .ok (.iconst (-1), 1) := by decide +kernel
theorem dX12_heard_24 : decode cX12_heard 24 = .ok (.ireturn, 1) := by decide +kernel
theorem dX12_watch_0 : decode cX12_watch 0 = .ok (.aload_n 0, 1) := by decide +kernel
theorem dX12_watch_1 : decode cX12_watch 1 = .ok (.iload_n 1, 1) := by decide +kernel
theorem dX12_watch_2 : decode cX12_watch 2 = .ok (.invokevirtual 369, 3) := by decide +kernel
theorem dX12_watch_5 : decode cX12_watch 5 = .ok (.ifCond .eq 12, 3) := by decide +kernel
theorem dX12_watch_17 : decode cX12_watch 17 = .ok (.iconst (-1), 1) := by decide +kernel
theorem dX12_watch_18 : decode cX12_watch 18 = .ok (.ireturn, 1) := by decide +kernel
theorem dX12_untell_0 : decode cX12_untell 0 = .ok (.iload_n 1, 1) := by decide +kernel
theorem dX12_untell_1 : decode cX12_untell 1 = .ok (.iconst 0, 1) := by decide +kernel
theorem dX12_untell_2 : decode cX12_untell 2 = .ok (.aload_n 0, 1) := by decide +kernel
theorem dX12_untell_3 : decode cX12_untell 3 = .ok (.getfield 233, 3) := by decide +kernel
theorem dX12_untell_6 : decode cX12_untell 6 = .ok (.iconst 1, 1) := by decide +kernel
theorem dX12_untell_7 : decode cX12_untell 7 = .ok (.isub, 1) := by decide +kernel
theorem dX12_untell_8 : decode cX12_untell 8 = .ok (.invokestatic 311, 3) := by decide +kernel
theorem dX12_untell_11 : decode cX12_untell 11 = .ok (.ifCond .eq 12, 3) := by decide +kernel
theorem dX12_untell_23 : decode cX12_untell 23 = .ok (.iconst 0, 1) := by decide +kernel
theorem dX12_untell_24 : decode cX12_untell 24 = .ok (.ireturn, 1) := by decide +kernel
theorem dX12_later_0 : decode cX12_later 0 = .ok (.iload_n 1, 1) := by decide +kernel
theorem dX12_later_1 : decode cX12_later 1 = .ok (.iconst 0, 1) := by decide +kernel
theorem dX12_later_2 : decode cX12_later 2 = .ok (.sipush 1000, 3) := by decide +kernel
theorem dX12_later_5 : decode cX12_later 5 = .ok (.invokestatic 311, 3) := by decide +kernel
theorem dX12_later_8 : decode cX12_later 8 = .ok (.ifCond .eq 15, 3) := by decide +kernel
theorem dX12_later_23 : decode cX12_later 23 = .ok (.iconst (-1), 1) := by decide +kernel
theorem dX12_later_24 : decode cX12_later 24 = .ok (.ireturn, 1) := by decide +kernel
theorem dX12_later_11 : decode cX12_later 11 = .ok (.aload_n 0, 1) := by decide +kernel
theorem dX12_later_12 : decode cX12_later 12 = .ok (.getfield 423, 3) := by decide +kernel
theorem dX12_later_15 : decode cX12_later 15 = .ok (.iload_n 1, 1) := by decide +kernel
theorem dX12_later_16 : decode cX12_later 16 = .ok (.iadd, 1) := by decide +kernel
theorem dX12_later_17 : decode cX12_later 17 = .ok (.ldc_w 426, 3) := by decide +kernel
theorem dX12_later_20 : decode cX12_later 20 = .ok (.if_icmp .le 5, 3) := by decide +kernel
theorem dX12_later_25 : decode cX12_later 25 = .ok (.aload_n 0, 1) := by decide +kernel
theorem dX12_later_26 : decode cX12_later 26 = .ok (.dup, 1) := by decide +kernel
theorem dX12_later_27 : decode cX12_later 27 = .ok (.getfield 423, 3) := by decide +kernel
theorem dX12_later_30 : decode cX12_later 30 = .ok (.iload_n 1, 1) := by decide +kernel
theorem dX12_later_31 : decode cX12_later 31 = .ok (.iadd, 1) := by decide +kernel
theorem dX12_later_32 : decode cX12_later 32 = .ok (.putfield 423, 3) := by decide +kernel
theorem dX12_later_35 : decode cX12_later 35 = .ok (.aload_n 0, 1) := by decide +kernel
theorem dX12_later_36 : decode cX12_later 36 = .ok (.getfield 423, 3) := by decide +kernel
theorem dX12_later_39 : decode cX12_later 39 = .ok (.ireturn, 1) := by decide +kernel
theorem dX12_next_0 : decode cX12_next 0 = .ok (.aload_n 0, 1) := by decide +kernel
theorem dX12_next_1 : decode cX12_next 1 = .ok (.iload_n 2, 1) := by decide +kernel
theorem dX12_next_2 : decode cX12_next 2 = .ok (.invokevirtual 427, 3) := by decide +kernel
theorem dX12_next_5 : decode cX12_next 5 = .ok (.istore_n 3, 1) := by decide +kernel
theorem dX12_next_6 : decode cX12_next 6 = .ok (.iload_n 1, 1) := by decide +kernel
theorem dX12_next_7 : decode cX12_next 7 = .ok (.iconst 0, 1) := by decide +kernel
theorem dX12_next_8 : decode cX12_next 8 = .ok (.iconst 2, 1) := by decide +kernel
theorem dX12_next_9 : decode cX12_next 9 = .ok (.invokestatic 311, 3) := by decide +kernel
theorem dX12_next_12 : decode cX12_next 12 = .ok (.ifCond .eq 7, 3) := by decide +kernel
theorem dX12_next_19 : decode cX12_next 19 = .ok (.iconst (-1), 1) := by decide +kernel
theorem dX12_next_20 : decode cX12_next 20 = .ok (.ireturn, 1) := by decide +kernel
theorem dX12_next_15 : decode cX12_next 15 = .ok (.iload_n 3, 1) := by decide +kernel
theorem dX12_next_16 : decode cX12_next 16 = .ok (.ifCond .ne 5, 3) := by decide +kernel
theorem dX12_back_0 : decode cX12_back 0 = .ok (.iload_n 1, 1) := by decide +kernel
theorem dX12_back_1 : decode cX12_back 1 = .ok (.iconst 0, 1) := by decide +kernel
theorem dX12_back_2 : decode cX12_back 2 = .ok (.iconst 2, 1) := by decide +kernel
theorem dX12_back_3 : decode cX12_back 3 = .ok (.invokestatic 311, 3) := by decide +kernel
theorem dX12_back_6 : decode cX12_back 6 = .ok (.ifCond .eq 12, 3) := by decide +kernel
theorem dX12_back_9 : decode cX12_back 9 = .ok (.aload_n 0, 1) := by decide +kernel
theorem dX12_back_10 : decode cX12_back 10 = .ok (.getfield 113, 3) := by decide +kernel
theorem dX12_back_13 : decode cX12_back 13 = .ok (.iload_n 1, 1) := by decide +kernel
theorem dX12_back_14 : decode cX12_back 14 = .ok (.iaload, 1) := by decide +kernel
theorem dX12_back_15 : decode cX12_back 15 = .ok (.ifCond .ge 5, 3) := by decide +kernel
theorem dX12_back_18 : decode cX12_back 18 = .ok (.iconst (-1), 1) := by decide +kernel
theorem dX12_back_19 : decode cX12_back 19 = .ok (.ireturn, 1) := by decide +kernel
theorem dX12_about_0 : decode cX12_about 0 = .ok (.iload_n 1, 1) := by decide +kernel
theorem dX12_about_1 : decode cX12_about 1 = .ok (.tableswitch 110 0 7 #[47, 57, 67, 72, 85, 90, 95, 100], 47) := by decide +kernel
theorem dX12_about_48 : decode cX12_about 48 = .ok (.aload_n 0, 1) := by decide +kernel
theorem dX12_about_49 : decode cX12_about 49 = .ok (.getfield 20, 3) := by decide +kernel
theorem dX12_about_52 : decode cX12_about 52 = .ok (.aload_n 0, 1) := by decide +kernel
theorem dX12_about_53 : decode cX12_about 53 = .ok (.getfield 227, 3) := by decide +kernel
theorem dX12_about_56 : decode cX12_about 56 = .ok (.iaload, 1) := by decide +kernel
theorem dX12_about_57 : decode cX12_about 57 = .ok (.ireturn, 1) := by decide +kernel
theorem dX12_about_58 : decode cX12_about 58 = .ok (.aload_n 0, 1) := by decide +kernel
theorem dX12_about_59 : decode cX12_about 59 = .ok (.getfield 24, 3) := by decide +kernel
theorem dX12_about_62 : decode cX12_about 62 = .ok (.aload_n 0, 1) := by decide +kernel
theorem dX12_about_63 : decode cX12_about 63 = .ok (.getfield 227, 3) := by decide +kernel
theorem dX12_about_66 : decode cX12_about 66 = .ok (.iaload, 1) := by decide +kernel
theorem dX12_about_67 : decode cX12_about 67 = .ok (.ireturn, 1) := by decide +kernel
theorem dX12_about_68 : decode cX12_about 68 = .ok (.aload_n 0, 1) := by decide +kernel
theorem dX12_about_69 : decode cX12_about 69 = .ok (.getfield 236, 3) := by decide +kernel
theorem dX12_about_72 : decode cX12_about 72 = .ok (.ireturn, 1) := by decide +kernel
theorem dX12_about_73 : decode cX12_about 73 = .ok (.aload_n 0, 1) := by decide +kernel
theorem dX12_about_74 : decode cX12_about 74 = .ok (.getfield 239, 3) := by decide +kernel
theorem dX12_about_77 : decode cX12_about 77 = .ok (.ifCond .eq 7, 3) := by decide +kernel
theorem dX12_about_84 : decode cX12_about 84 = .ok (.iconst 0, 1) := by decide +kernel
theorem dX12_about_85 : decode cX12_about 85 = .ok (.ireturn, 1) := by decide +kernel
theorem dX12_about_86 : decode cX12_about 86 = .ok (.aload_n 0, 1) := by decide +kernel
theorem dX12_about_87 : decode cX12_about 87 = .ok (.getfield 233, 3) := by decide +kernel
theorem dX12_about_90 : decode cX12_about 90 = .ok (.ireturn, 1) := by decide +kernel
theorem dX12_about_91 : decode cX12_about 91 = .ok (.aload_n 0, 1) := by decide +kernel
theorem dX12_about_92 : decode cX12_about 92 = .ok (.getfield 423, 3) := by decide +kernel
theorem dX12_about_95 : decode cX12_about 95 = .ok (.ireturn, 1) := by decide +kernel
theorem dX12_about_96 : decode cX12_about 96 = .ok (.aload_n 0, 1) := by decide +kernel
theorem dX12_about_97 : decode cX12_about 97 = .ok (.getfield 224, 3) := by decide +kernel
theorem dX12_about_100 : decode cX12_about 100 = .ok (.ireturn, 1) := by decide +kernel
theorem dX12_about_101 : decode cX12_about 101 = .ok (.aload_n 0, 1) := by decide +kernel
theorem dX12_about_102 : decode cX12_about 102 = .ok (.getfield 27, 3) := by decide +kernel
theorem dX12_about_105 : decode cX12_about 105 = .ok (.aload_n 0, 1) := by decide +kernel
theorem dX12_about_106 : decode cX12_about 106 = .ok (.getfield 227, 3) := by decide +kernel
theorem dX12_about_109 : decode cX12_about 109 = .ok (.iaload, 1) := by decide +kernel
theorem dX12_about_110 : decode cX12_about 110 = .ok (.ireturn, 1) := by decide +kernel
theorem dX12_about_111 : decode cX12_about 111 = .ok (.iconst (-1), 1) := by decide +kernel
theorem dX12_about_112 : decode cX12_about 112 = .ok (.ireturn, 1) := by decide +kernel
/-! the reference's public methods on a fresh object -/
abbrev WM (cy : Nat → ClassId) (mo : Nat) (h : Nat → Nat) (f : Nat → Nat → Int32) : va_W := [(mo, .inr (12, [.ref (h 0), .ref (h 1), .int 0, .int 0, .int 0, .int (-1), .int 0, .int 0, .int 0, .int 0, .long 0, .ref (h 2), .ref (h 3), .ref (h 4), .ref (h 5), .ref (h 6), .ref (h 7), .ref (h 8), .ref (h 9), .ref (h 10), .ref (h 11), .ref (h 12), .ref (h 13), .ref (h 14), .ref (h 15), .ref (h 16), .ref (h 17), .ref (h 18), .ref (h 19), .int 0, .int 0, .int 0, .int 0, .int 0, .int 0, .ref (h 20), .ref (h 21), .int 0, .ref (h 22), .ref (h 23), .ref (h 24), .ref (h 25), .ref (h 26), .int 0, .int 0, .ref (h 27), .ref (h 28), .ref (h 29), .ref (h 30), .ref (h 31), .int 0, .int 0, .ref (h 32), .ref (h 33), .ref (h 34), .ref (h 35), .ref (h 36), .ref (h 37)])), ((h 0), .inl (cy 1, 1720, .inl (fun _ => 0))), ((h 2), .inl (cy 0, 2, .inl (fun _ => 0))), ((h 3), .inl (cy 0, 2, .inl (fun _ => 0))), ((h 4), .inl (cy 0, 2, .inl (fun _ => 0))), ((h 5), .inl (cy 0, 2, .inl (f 0))), ((h 12), .inl (cy 2, 2, .inl (f 1))), ((h 7), .inl (cy 0, 1200, .inl (fun _ => 0))), ((h 8), .inl (cy 0, 1200, .inl (fun _ => 0))), ((h 20), .inl (cy 2, 8, .inl (fun _ => 0))), ((h 21), .inl (cy 0, 8, .inl (fun _ => 0))), ((h 32), .inl (cy 0, 3, .inl (f 2))), ((h 33), .inl (cy 0, 120, .inl (fun _ => 0))), ((h 34), .inl (cy 0, 120, .inl (fun _ => 0))), ((h 35), .inl (cy 0, 24, .inl (fun _ => 0))), ((h 36), .inl (cy 2, 24, .inl (fun _ => 0))), ((h 37), .inl (cy 2, 3, .inl (fun _ => 0)))]
set_option maxHeartbeats 4000000 in
set_option maxRecDepth 100000 in
theorem m_end (l : Launch) (G : va_G) (cy : Nat → ClassId) (sz : Nat) (mo : Nat) (h : Nat → Nat) (f : Nat → Nat → Int32) (n : Int32)  : Met l yX12_end (.code yX12_end cX12_end 2 (some .int) :: TBg) ({ frames := 1, cells := 0, slots := 0, locals := 64 }) (va_Pc [.ref mo, .int n] (En G cy (WM cy mo h f) sz)) (va_Qi (fun (r : Int32) (_ : Unit) => r = (sp_zero n) ∧ True) (fun _ _ => True) (va_A (WM cy mo h f) sz)) 0 0 (va_A (WM cy mo h f) sz) := by
  refine Met.ofW (cc := cX12_end) (maxL := 2) (ret := (some .int)) (by decide) rfl ?_
  intro p e s m args below meth c s₁ B hml hv
  obtain ⟨rfl, hsz, hP, hK, hD0, hN⟩ := hv
  have hx := B.exec
  have hb := B.bytes
  have hr := B.returns
  have hts := atoms_spec (ws := .code yX12_end cX12_end 2 (some .int) :: TBg) B.pre
  have ht : ∀ w ∈ TBg, w.before _ s = true := fun w h => hts w (List.mem_cons_of_mem _ h)
  have hown : s.vm.findClass RX12 = some m.cls := findClass_of_methodNamed B.named
  have hlocks := B.notSynchronized
  subst hsz
  have hD := hD0.self (sz := s.heap.size)
  generalize hAe : va_A (WM cy mo h f) s.heap.size = A at hD ⊢
  have hA : ∀ q : Nat, s.heap.size ≤ q → A q := fun q h => by rw [← hAe]; exact Or.inr h
  have hS : va_S A s.heap s.heap [] := va_S.rf
  have hl := lv_entry ([.ref mo, .int n]) (n := 2) (Nat.le_of_ble_eq_true rfl)
  rw [lg_entry_eq]
  generalize (lg_sl ([.ref mo, .int n]) ++ List.replicate (2 - (lg_sl ([.ref mo, .int n])).length) Slot.unset).toArray = ls at hl ⊢
  rcases ow_cut n 1 (by decide) with ⟨j, hj, hj2⟩ | hout
  · have hj3 : j = 0 := by omega
    rcases hj3 with rfl
    · obtain rfl : n = 0 := hj2
      have hl : lv_has ls 2 [(0, .ref mo), (1, .int 0)] := hl
      refine lv_iload_n hx hb dX12_end_0 rfl (lv_at hl 1 rfl) ?_
      refine lv_if_lt (tgt := 12) hx hb dX12_end_1 (by decide) (fun c9 => absurd c9 (by decide)) (fun _ => ?_)
      refine lv_iload_n hx hb dX12_end_4 rfl (lv_at hl 1 rfl) ?_
      refine lv_aload_n hx hb dX12_end_5 rfl (lv_at hl 0 rfl) ?_
      refine va_get (ci := 12) (v := .int 0) (C := RX12) (T := TX12) (N := 58) hx hb ht iX12 hown hK hP 0 rfl rfl 2 (by decide) (ht _ k_334) (fun _ h9 => h9) rfl dX12_end_6 ?_
      refine lv_icmp_le (tgt := 14) hx hb dX12_end_9 (by decide) (fun _ => ?_) (fun c9 => absurd (by decide) c9)
      refine lv_aload_n hx hb dX12_end_14 rfl (lv_at hl 0 rfl) ?_
      refine lv_iload_n hx hb dX12_end_15 rfl (lv_at hl 1 rfl) ?_
      refine va_put (ci := 12) (v := .int 0) (ty := .int) (C := RX12) (T := TX12) (N := 58) hx hb ht iX12 tyX12 tyX12_ok nmX12 hown hK hP hD hS 0 rfl rfl 2 (by decide) (ht _ k_334) (fun _ h9 => h9) rfl (by decide +kernel) rfl rfl (Nat.le_of_ble_eq_true rfl) dX12_end_16 (fun H locs hP hD hS => ?_)
      refine lv_iload_n hx hb dX12_end_19 rfl (lv_at hl 1 rfl) ?_
      refine W.widen (k := 0) (n := 0) (Nat.le_of_ble_eq_true rfl) (Nat.le_of_ble_eq_true rfl) ?_
      exact W.iret (v := 0) hx hb hr (fun t ht9 hW => ⟨⟨0, (), rfl, ⟨(by decide +kernel), trivial⟩, trivial⟩, hS.F ht9⟩) hS.2.2 dX12_end_20
  · skip
    have hl : lv_has ls 2 [(0, .ref mo), (1, .int n)] := hl
    refine lv_iload_n hx hb dX12_end_0 rfl (lv_at hl 1 rfl) ?_
    refine lv_if_lt (tgt := 12) hx hb dX12_end_1 (by decide) (fun c_1 => ?_) (fun c_1 => ?_)
    · skip
      refine lv_iconst (v := (-1)) hx hb dX12_end_12 (by decide) ?_
      refine W.widen (k := 0) (n := 0) (Nat.le_of_ble_eq_true rfl) (Nat.le_of_ble_eq_true rfl) ?_
      exact W.iret (v := (-1)) hx hb hr (fun t ht9 hW => ⟨⟨(-1), (), rfl, ⟨(by unfold sp_zero; have z0 : (0 : Int32).toInt = 0 := (by decide); split <;> first | rfl | (exfalso; rename_i hc9; (try simp only [ow_lt, ow_le, ow_eq, true_and, and_true] at hc9 hout c_1); omega)), trivial⟩, trivial⟩, hS.F ht9⟩) hS.2.2 dX12_end_13
    · skip
      refine lv_iload_n hx hb dX12_end_4 rfl (lv_at hl 1 rfl) ?_
      refine lv_aload_n hx hb dX12_end_5 rfl (lv_at hl 0 rfl) ?_
      refine va_get (ci := 12) (v := .int 0) (C := RX12) (T := TX12) (N := 58) hx hb ht iX12 hown hK hP 0 rfl rfl 2 (by decide) (ht _ k_334) (fun _ h9 => h9) rfl dX12_end_6 ?_
      refine lv_icmp_le (tgt := 14) hx hb dX12_end_9 (by decide) (fun c_2 => ?_) (fun c_2 => ?_)
      · exfalso
        have z0 : (0 : Int32).toInt = 0 := (by decide); (try simp only [ow_lt, ow_le, ow_eq, true_and, and_true] at hout c_1 c_2); omega
      · skip
        refine lv_iconst (v := (-1)) hx hb dX12_end_12 (by decide) ?_
        refine W.widen (k := 0) (n := 0) (Nat.le_of_ble_eq_true rfl) (Nat.le_of_ble_eq_true rfl) ?_
        exact W.iret (v := (-1)) hx hb hr (fun t ht9 hW => ⟨⟨(-1), (), rfl, ⟨(by unfold sp_zero; have z0 : (0 : Int32).toInt = 0 := (by decide); split <;> first | rfl | (exfalso; rename_i hc9; (try simp only [ow_lt, ow_le, ow_eq, true_and, and_true] at hc9 hout c_1 c_2); omega)), trivial⟩, trivial⟩, hS.F ht9⟩) hS.2.2 dX12_end_13
set_option maxHeartbeats 4000000 in
set_option maxRecDepth 100000 in
theorem m_fault (l : Launch) (G : va_G) (cy : Nat → ClassId) (sz : Nat) (mo : Nat) (h : Nat → Nat) (f : Nat → Nat → Int32) (n : Int32)  : Met l yX12_fault (.code yX12_fault cX12_fault 2 (some .int) :: TBg) ({ frames := 1, cells := 0, slots := 0, locals := 64 }) (va_Pc [.ref mo, .int n] (En G cy (WM cy mo h f) sz)) (va_Qi (fun (r : Int32) (_ : Unit) => r = (sp_zero n) ∧ True) (fun _ _ => True) (va_A (WM cy mo h f) sz)) 0 0 (va_A (WM cy mo h f) sz) := by
  refine Met.ofW (cc := cX12_fault) (maxL := 2) (ret := (some .int)) (by decide) rfl ?_
  intro p e s m args below meth c s₁ B hml hv
  obtain ⟨rfl, hsz, hP, hK, hD0, hN⟩ := hv
  have hx := B.exec
  have hb := B.bytes
  have hr := B.returns
  have hts := atoms_spec (ws := .code yX12_fault cX12_fault 2 (some .int) :: TBg) B.pre
  have ht : ∀ w ∈ TBg, w.before _ s = true := fun w h => hts w (List.mem_cons_of_mem _ h)
  have hown : s.vm.findClass RX12 = some m.cls := findClass_of_methodNamed B.named
  have hlocks := B.notSynchronized
  subst hsz
  have hD := hD0.self (sz := s.heap.size)
  generalize hAe : va_A (WM cy mo h f) s.heap.size = A at hD ⊢
  have hA : ∀ q : Nat, s.heap.size ≤ q → A q := fun q h => by rw [← hAe]; exact Or.inr h
  have hS : va_S A s.heap s.heap [] := va_S.rf
  have hl := lv_entry ([.ref mo, .int n]) (n := 2) (Nat.le_of_ble_eq_true rfl)
  rw [lg_entry_eq]
  generalize (lg_sl ([.ref mo, .int n]) ++ List.replicate (2 - (lg_sl ([.ref mo, .int n])).length) Slot.unset).toArray = ls at hl ⊢
  rcases ow_cut n 2 (by decide) with ⟨j, hj, hj2⟩ | hout
  · have hj3 : j = 0 ∨ j = 1 := by omega
    rcases hj3 with rfl | rfl
    · obtain rfl : n = 0 := hj2
      have hl : lv_has ls 2 [(0, .ref mo), (1, .int 0)] := hl
      refine lv_iload_n hx hb dX12_fault_0 rfl (lv_at hl 1 rfl) ?_
      refine lv_if_ne (tgt := 11) hx hb dX12_fault_1 (by decide) (fun c9 => absurd (by decide) c9) (fun _ => ?_)
      refine lv_aload_n hx hb dX12_fault_4 rfl (lv_at hl 0 rfl) ?_
      refine va_get (ci := 12) (v := .int 0) (C := RX12) (T := TX12) (N := 58) hx hb ht iX12 hown hK hP 0 rfl rfl 4 (by decide) (ht _ k_319) (fun _ h9 => h9) rfl dX12_fault_5 ?_
      refine lv_goto (tgt := 24) hx hb dX12_fault_8 (by decide) ?_
      refine W.widen (k := 0) (n := 0) (Nat.le_of_ble_eq_true rfl) (Nat.le_of_ble_eq_true rfl) ?_
      exact W.iret (v := 0) hx hb hr (fun t ht9 hW => ⟨⟨0, (), rfl, ⟨(by decide +kernel), trivial⟩, trivial⟩, hS.F ht9⟩) hS.2.2 dX12_fault_24
    · obtain rfl : n = 1 := hj2
      have hl : lv_has ls 2 [(0, .ref mo), (1, .int 1)] := hl
      refine lv_iload_n hx hb dX12_fault_0 rfl (lv_at hl 1 rfl) ?_
      refine lv_if_ne (tgt := 11) hx hb dX12_fault_1 (by decide) (fun _ => ?_) (fun c9 => absurd c9 (by decide))
      refine lv_iload_n hx hb dX12_fault_11 rfl (lv_at hl 1 rfl) ?_
      refine lv_iconst (v := 1) hx hb dX12_fault_12 (by decide) ?_
      refine lv_icmp_ne (tgt := 23) hx hb dX12_fault_13 (by decide) (fun c9 => absurd (by decide) c9) (fun _ => ?_)
      refine lv_aload_n hx hb dX12_fault_16 rfl (lv_at hl 0 rfl) ?_
      refine va_get (ci := 12) (v := .int (-1)) (C := RX12) (T := TX12) (N := 58) hx hb ht iX12 hown hK hP 0 rfl rfl 5 (by decide) (ht _ k_278) (fun _ h9 => h9) rfl dX12_fault_17 ?_
      refine lv_goto (tgt := 24) hx hb dX12_fault_20 (by decide) ?_
      refine W.widen (k := 0) (n := 0) (Nat.le_of_ble_eq_true rfl) (Nat.le_of_ble_eq_true rfl) ?_
      exact W.iret (v := (-1)) hx hb hr (fun t ht9 hW => ⟨⟨(-1), (), rfl, ⟨(by decide +kernel), trivial⟩, trivial⟩, hS.F ht9⟩) hS.2.2 dX12_fault_24
  · skip
    have hl : lv_has ls 2 [(0, .ref mo), (1, .int n)] := hl
    refine lv_iload_n hx hb dX12_fault_0 rfl (lv_at hl 1 rfl) ?_
    refine lv_if_ne (tgt := 11) hx hb dX12_fault_1 (by decide) (fun c_1 => ?_) (fun c_1 => ?_)
    · skip
      refine lv_iload_n hx hb dX12_fault_11 rfl (lv_at hl 1 rfl) ?_
      refine lv_iconst (v := 1) hx hb dX12_fault_12 (by decide) ?_
      refine lv_icmp_ne (tgt := 23) hx hb dX12_fault_13 (by decide) (fun c_2 => ?_) (fun c_2 => ?_)
      · skip
        refine lv_iconst (v := (-1)) hx hb dX12_fault_23 (by decide) ?_
        refine W.widen (k := 0) (n := 0) (Nat.le_of_ble_eq_true rfl) (Nat.le_of_ble_eq_true rfl) ?_
        exact W.iret (v := (-1)) hx hb hr (fun t ht9 hW => ⟨⟨(-1), (), rfl, ⟨(by unfold sp_zero; have z0 : (0 : Int32).toInt = 0 := (by decide); have z1 : (1 : Int32).toInt = 1 := (by decide); split <;> first | rfl | (exfalso; rename_i hc9; (try simp only [ow_lt, ow_le, ow_eq, true_and, and_true] at hc9 hout c_1 c_2); omega)), trivial⟩, trivial⟩, hS.F ht9⟩) hS.2.2 dX12_fault_24
      · exfalso
        have z0 : (0 : Int32).toInt = 0 := (by decide); have z1 : (1 : Int32).toInt = 1 := (by decide); (try simp only [ow_lt, ow_le, ow_eq, true_and, and_true] at hout c_1 c_2); omega
    · exfalso
      have z0 : (0 : Int32).toInt = 0 := (by decide); (try simp only [ow_lt, ow_le, ow_eq, true_and, and_true] at hout c_1); omega
set_option maxHeartbeats 4000000 in
set_option maxRecDepth 100000 in
theorem m_notes (l : Launch) (G : va_G) (cy : Nat → ClassId) (sz : Nat) (mo : Nat) (h : Nat → Nat) (f : Nat → Nat → Int32) (n : Int32)  : Met l yX12_notes (.code yX12_notes cX12_notes 2 (some .int) :: TBg) ({ frames := 3, cells := 0, slots := 0, locals := 192 }) (va_Pc [.ref mo, .int n] (En G cy (WM cy mo h f) sz)) (va_Qi (fun (r : Int32) (_ : Unit) => r = (-1) ∧ True) (fun _ _ => True) (va_A (WM cy mo h f) sz)) 0 0 (va_A (WM cy mo h f) sz) := by
  refine Met.ofW (cc := cX12_notes) (maxL := 2) (ret := (some .int)) (by decide) rfl ?_
  intro p e s m args below meth c s₁ B hml hv
  obtain ⟨rfl, hsz, hP, hK, hD0, hN⟩ := hv
  have hx := B.exec
  have hb := B.bytes
  have hr := B.returns
  have hts := atoms_spec (ws := .code yX12_notes cX12_notes 2 (some .int) :: TBg) B.pre
  have ht : ∀ w ∈ TBg, w.before _ s = true := fun w h => hts w (List.mem_cons_of_mem _ h)
  have hown : s.vm.findClass RX12 = some m.cls := findClass_of_methodNamed B.named
  have hlocks := B.notSynchronized
  subst hsz
  have hD := hD0.self (sz := s.heap.size)
  generalize hAe : va_A (WM cy mo h f) s.heap.size = A at hD ⊢
  have hA : ∀ q : Nat, s.heap.size ≤ q → A q := fun q h => by rw [← hAe]; exact Or.inr h
  have hS : va_S A s.heap s.heap [] := va_S.rf
  have hl := lv_entry ([.ref mo, .int n]) (n := 2) (Nat.le_of_ble_eq_true rfl)
  rw [lg_entry_eq]
  generalize (lg_sl ([.ref mo, .int n]) ++ List.replicate (2 - (lg_sl ([.ref mo, .int n])).length) Slot.unset).toArray = ls at hl ⊢
  have hl : lv_has ls 2 [(0, .ref mo), (1, .int n)] := hl
  refine lv_aload_n hx hb dX12_notes_0 rfl (lv_at hl 0 rfl) ?_
  refine lv_iload_n hx hb dX12_notes_1 rfl (lv_at hl 1 rfl) ?_
  have hFc := fr_new hS hA
  have hPc := hP.sub (ws' := [(mo, .inr (12, [.ref (h 0), .ref (h 1), .int 0, .int 0, .int 0, .int (-1), .int 0, .int 0, .int 0, .int 0, .long 0, .ref (h 2), .ref (h 3), .ref (h 4), .ref (h 5), .ref (h 6), .ref (h 7), .ref (h 8), .ref (h 9), .ref (h 10), .ref (h 11), .ref (h 12), .ref (h 13), .ref (h 14), .ref (h 15), .ref (h 16), .ref (h 17), .ref (h 18), .ref (h 19), .int 0, .int 0, .int 0, .int 0, .int 0, .int 0, .ref (h 20), .ref (h 21), .int 0, .ref (h 22), .ref (h 23), .ref (h 24), .ref (h 25), .ref (h 26), .int 0, .int 0, .ref (h 27), .ref (h 28), .ref (h 29), .ref (h 30), .ref (h 31), .int 0, .int 0, .ref (h 32), .ref (h 33), .ref (h 34), .ref (h 35), .ref (h 36), .ref (h 37)])), ((h 2), .inl (cy 0, 2, .inl (fun _ => 0)))]) [0, 2] rfl
  have hDc := hD.sub (ws' := [(mo, .inr (12, [.ref (h 0), .ref (h 1), .int 0, .int 0, .int 0, .int (-1), .int 0, .int 0, .int 0, .int 0, .long 0, .ref (h 2), .ref (h 3), .ref (h 4), .ref (h 5), .ref (h 6), .ref (h 7), .ref (h 8), .ref (h 9), .ref (h 10), .ref (h 11), .ref (h 12), .ref (h 13), .ref (h 14), .ref (h 15), .ref (h 16), .ref (h 17), .ref (h 18), .ref (h 19), .int 0, .int 0, .int 0, .int 0, .int 0, .int 0, .ref (h 20), .ref (h 21), .int 0, .ref (h 22), .ref (h 23), .ref (h 24), .ref (h 25), .ref (h 26), .int 0, .int 0, .ref (h 27), .ref (h 28), .ref (h 29), .ref (h 30), .ref (h 31), .int 0, .int 0, .ref (h 32), .ref (h 33), .ref (h 34), .ref (h 35), .ref (h 36), .ref (h 37)])), ((h 2), .inl (cy 0, 2, .inl (fun _ => 0)))]) [0, 2] (by decide) rfl
  refine va_calli (va_runV (As := [.int n]) (rest := []) ⟨hx, hb, hml, hown, ht⟩ (m_isTune l G cy _ mo n (h 2) (.ref (h 0)) (.ref (h 1)) (.int 0) (.int 0) (.int 0) (.int (-1)) (.int 0) (.int 0) (.int 0) (.int 0) (.long 0) (.ref (h 3)) (.ref (h 4)) (.ref (h 5)) (.ref (h 6)) (.ref (h 7)) (.ref (h 8)) (.ref (h 9)) (.ref (h 10)) (.ref (h 11)) (.ref (h 12)) (.ref (h 13)) (.ref (h 14)) (.ref (h 15)) (.ref (h 16)) (.ref (h 17)) (.ref (h 18)) (.ref (h 19)) (.int 0) (.int 0) (.int 0) (.int 0) (.int 0) (.ref (h 20)) (.ref (h 21)) (.int 0) (.ref (h 22)) (.ref (h 23)) (.ref (h 24)) (.ref (h 25)) (.ref (h 26)) (.int 0) (.int 0) (.ref (h 27)) (.ref (h 28)) (.ref (h 29)) (.ref (h 30)) (.ref (h 31)) (.int 0) (.int 0) (.ref (h 32)) (.ref (h 33)) (.ref (h 34)) (.ref (h 35)) (.ref (h 36)) (.ref (h 37)) ) (cwV 1 ht (gv k_336 k_337 k_338 k_314 k_335) rfl rfl rfl (by decide +kernel) ⟨Nat.le_of_ble_eq_true rfl, Nat.le_of_ble_eq_true rfl⟩) ⟨En.blind, va_recv hK hP (ci := 12) (q0 := 0) rfl rfl, fun U hU hW => ⟨rfl, En.of hU hW hPc hK hDc hN⟩⟩ rfl rfl hl.1 rfl (lv_room (Nat.le_of_ble_eq_true rfl)) dX12_notes_2 ⟨Nat.le_of_ble_eq_true rfl, Nat.le_of_ble_eq_true rfl⟩) hS (fun q _ h => hFc q h) hFc (fun r_2 u_1 t H locs ht9 hvm hw hB hz1 hk1 hS => ?_)
  have hP := fr_keep hP hk1
  obtain rfl : r_2 = 0 := hw.1
  refine lv_if_eq (tgt := 20) hx hb dX12_notes_5 (by decide) (fun _ => ?_) (fun c9 => absurd (by decide) c9)
  refine lv_iconst (v := (-1)) hx hb dX12_notes_20 (by decide) ?_
  refine W.widen (k := 0) (n := 0) (Nat.le_of_ble_eq_true rfl) (Nat.le_of_ble_eq_true rfl) ?_
  exact W.iret (v := (-1)) hx hb hr (fun t ht9 hW => ⟨⟨(-1), (), rfl, ⟨rfl, trivial⟩, trivial⟩, hS.F ht9⟩) hS.2.2 dX12_notes_21
set_option maxHeartbeats 4000000 in
set_option maxRecDepth 100000 in
theorem m_step (l : Launch) (G : va_G) (cy : Nat → ClassId) (sz : Nat) (mo : Nat) (h : Nat → Nat) (f : Nat → Nat → Int32) (n : Int32) (n2 : Int32)  : Met l yX12_step (.code yX12_step cX12_step 3 (some .int) :: TBg) ({ frames := 3, cells := 0, slots := 0, locals := 192 }) (va_Pc [.ref mo, .int n, .int n2] (En G cy (WM cy mo h f) sz)) (va_Qi (fun (r : Int32) (_ : Unit) => r = (-1000000) ∧ True) (fun _ _ => True) (va_A (WM cy mo h f) sz)) 0 0 (va_A (WM cy mo h f) sz) := by
  refine Met.ofW (cc := cX12_step) (maxL := 3) (ret := (some .int)) (by decide) rfl ?_
  intro p e s m args below meth c s₁ B hml hv
  obtain ⟨rfl, hsz, hP, hK, hD0, hN⟩ := hv
  have hx := B.exec
  have hb := B.bytes
  have hr := B.returns
  have hts := atoms_spec (ws := .code yX12_step cX12_step 3 (some .int) :: TBg) B.pre
  have ht : ∀ w ∈ TBg, w.before _ s = true := fun w h => hts w (List.mem_cons_of_mem _ h)
  have hown : s.vm.findClass RX12 = some m.cls := findClass_of_methodNamed B.named
  have hlocks := B.notSynchronized
  subst hsz
  have hD := hD0.self (sz := s.heap.size)
  generalize hAe : va_A (WM cy mo h f) s.heap.size = A at hD ⊢
  have hA : ∀ q : Nat, s.heap.size ≤ q → A q := fun q h => by rw [← hAe]; exact Or.inr h
  have hS : va_S A s.heap s.heap [] := va_S.rf
  have hl := lv_entry ([.ref mo, .int n, .int n2]) (n := 3) (Nat.le_of_ble_eq_true rfl)
  rw [lg_entry_eq]
  generalize (lg_sl ([.ref mo, .int n, .int n2]) ++ List.replicate (3 - (lg_sl ([.ref mo, .int n, .int n2])).length) Slot.unset).toArray = ls at hl ⊢
  have hl : lv_has ls 3 [(0, .ref mo), (1, .int n), (2, .int n2)] := hl
  refine lv_aload_n hx hb dX12_step_0 rfl (lv_at hl 0 rfl) ?_
  refine lv_iload_n hx hb dX12_step_1 rfl (lv_at hl 1 rfl) ?_
  have hFc := fr_new hS hA
  have hPc := hP.sub (ws' := [(mo, .inr (12, [.ref (h 0), .ref (h 1), .int 0, .int 0, .int 0, .int (-1), .int 0, .int 0, .int 0, .int 0, .long 0, .ref (h 2), .ref (h 3), .ref (h 4), .ref (h 5), .ref (h 6), .ref (h 7), .ref (h 8), .ref (h 9), .ref (h 10), .ref (h 11), .ref (h 12), .ref (h 13), .ref (h 14), .ref (h 15), .ref (h 16), .ref (h 17), .ref (h 18), .ref (h 19), .int 0, .int 0, .int 0, .int 0, .int 0, .int 0, .ref (h 20), .ref (h 21), .int 0, .ref (h 22), .ref (h 23), .ref (h 24), .ref (h 25), .ref (h 26), .int 0, .int 0, .ref (h 27), .ref (h 28), .ref (h 29), .ref (h 30), .ref (h 31), .int 0, .int 0, .ref (h 32), .ref (h 33), .ref (h 34), .ref (h 35), .ref (h 36), .ref (h 37)])), ((h 2), .inl (cy 0, 2, .inl (fun _ => 0)))]) [0, 2] rfl
  have hDc := hD.sub (ws' := [(mo, .inr (12, [.ref (h 0), .ref (h 1), .int 0, .int 0, .int 0, .int (-1), .int 0, .int 0, .int 0, .int 0, .long 0, .ref (h 2), .ref (h 3), .ref (h 4), .ref (h 5), .ref (h 6), .ref (h 7), .ref (h 8), .ref (h 9), .ref (h 10), .ref (h 11), .ref (h 12), .ref (h 13), .ref (h 14), .ref (h 15), .ref (h 16), .ref (h 17), .ref (h 18), .ref (h 19), .int 0, .int 0, .int 0, .int 0, .int 0, .int 0, .ref (h 20), .ref (h 21), .int 0, .ref (h 22), .ref (h 23), .ref (h 24), .ref (h 25), .ref (h 26), .int 0, .int 0, .ref (h 27), .ref (h 28), .ref (h 29), .ref (h 30), .ref (h 31), .int 0, .int 0, .ref (h 32), .ref (h 33), .ref (h 34), .ref (h 35), .ref (h 36), .ref (h 37)])), ((h 2), .inl (cy 0, 2, .inl (fun _ => 0)))]) [0, 2] (by decide) rfl
  refine va_calli (va_runV (As := [.int n]) (rest := []) ⟨hx, hb, hml, hown, ht⟩ (m_isTune l G cy _ mo n (h 2) (.ref (h 0)) (.ref (h 1)) (.int 0) (.int 0) (.int 0) (.int (-1)) (.int 0) (.int 0) (.int 0) (.int 0) (.long 0) (.ref (h 3)) (.ref (h 4)) (.ref (h 5)) (.ref (h 6)) (.ref (h 7)) (.ref (h 8)) (.ref (h 9)) (.ref (h 10)) (.ref (h 11)) (.ref (h 12)) (.ref (h 13)) (.ref (h 14)) (.ref (h 15)) (.ref (h 16)) (.ref (h 17)) (.ref (h 18)) (.ref (h 19)) (.int 0) (.int 0) (.int 0) (.int 0) (.int 0) (.ref (h 20)) (.ref (h 21)) (.int 0) (.ref (h 22)) (.ref (h 23)) (.ref (h 24)) (.ref (h 25)) (.ref (h 26)) (.int 0) (.int 0) (.ref (h 27)) (.ref (h 28)) (.ref (h 29)) (.ref (h 30)) (.ref (h 31)) (.int 0) (.int 0) (.ref (h 32)) (.ref (h 33)) (.ref (h 34)) (.ref (h 35)) (.ref (h 36)) (.ref (h 37)) ) (cwV 1 ht (gv k_336 k_337 k_338 k_314 k_335) rfl rfl rfl (by decide +kernel) ⟨Nat.le_of_ble_eq_true rfl, Nat.le_of_ble_eq_true rfl⟩) ⟨En.blind, va_recv hK hP (ci := 12) (q0 := 0) rfl rfl, fun U hU hW => ⟨rfl, En.of hU hW hPc hK hDc hN⟩⟩ rfl rfl hl.1 rfl (lv_room (Nat.le_of_ble_eq_true rfl)) dX12_step_2 ⟨Nat.le_of_ble_eq_true rfl, Nat.le_of_ble_eq_true rfl⟩) hS (fun q _ h => hFc q h) hFc (fun r_2 u_1 t H locs ht9 hvm hw hB hz1 hk1 hS => ?_)
  have hP := fr_keep hP hk1
  obtain rfl : r_2 = 0 := hw.1
  refine lv_if_eq (tgt := 40) hx hb dX12_step_5 (by decide) (fun _ => ?_) (fun c9 => absurd (by decide) c9)
  refine lv_ldcw (v := (-1000000)) hx hb hown (ht _ k_339) dX12_step_40 ?_
  refine W.widen (k := 0) (n := 0) (Nat.le_of_ble_eq_true rfl) (Nat.le_of_ble_eq_true rfl) ?_
  exact W.iret (v := (-1000000)) hx hb hr (fun t ht9 hW => ⟨⟨(-1000000), (), rfl, ⟨rfl, trivial⟩, trivial⟩, hS.F ht9⟩) hS.2.2 dX12_step_43
set_option maxHeartbeats 4000000 in
set_option maxRecDepth 100000 in
theorem m_off (l : Launch) (G : va_G) (cy : Nat → ClassId) (sz : Nat) (mo : Nat) (h : Nat → Nat) (f : Nat → Nat → Int32) (n : Int32) (n2 : Int32) (n3 : Int32)  : Met l yX12_off (.code yX12_off cX12_off 4 (some .int) :: TBg) ({ frames := 3, cells := 0, slots := 0, locals := 192 }) (va_Pc [.ref mo, .int n, .int n2, .int n3] (En G cy (WM cy mo h f) sz)) (va_Qi (fun (r : Int32) (_ : Unit) => r = (-1) ∧ True) (fun _ _ => True) (va_A (WM cy mo h f) sz)) 0 0 (va_A (WM cy mo h f) sz) := by
  refine Met.ofW (cc := cX12_off) (maxL := 4) (ret := (some .int)) (by decide) rfl ?_
  intro p e s m args below meth c s₁ B hml hv
  obtain ⟨rfl, hsz, hP, hK, hD0, hN⟩ := hv
  have hx := B.exec
  have hb := B.bytes
  have hr := B.returns
  have hts := atoms_spec (ws := .code yX12_off cX12_off 4 (some .int) :: TBg) B.pre
  have ht : ∀ w ∈ TBg, w.before _ s = true := fun w h => hts w (List.mem_cons_of_mem _ h)
  have hown : s.vm.findClass RX12 = some m.cls := findClass_of_methodNamed B.named
  have hlocks := B.notSynchronized
  subst hsz
  have hD := hD0.self (sz := s.heap.size)
  generalize hAe : va_A (WM cy mo h f) s.heap.size = A at hD ⊢
  have hA : ∀ q : Nat, s.heap.size ≤ q → A q := fun q h => by rw [← hAe]; exact Or.inr h
  have hS : va_S A s.heap s.heap [] := va_S.rf
  have hl := lv_entry ([.ref mo, .int n, .int n2, .int n3]) (n := 4) (Nat.le_of_ble_eq_true rfl)
  rw [lg_entry_eq]
  generalize (lg_sl ([.ref mo, .int n, .int n2, .int n3]) ++ List.replicate (4 - (lg_sl ([.ref mo, .int n, .int n2, .int n3])).length) Slot.unset).toArray = ls at hl ⊢
  have hl : lv_has ls 4 [(0, .ref mo), (1, .int n), (2, .int n2), (3, .int n3)] := hl
  refine lv_aload_n hx hb dX12_off_0 rfl (lv_at hl 0 rfl) ?_
  refine lv_iload_n hx hb dX12_off_1 rfl (lv_at hl 1 rfl) ?_
  have hFc := fr_new hS hA
  have hPc := hP.sub (ws' := [(mo, .inr (12, [.ref (h 0), .ref (h 1), .int 0, .int 0, .int 0, .int (-1), .int 0, .int 0, .int 0, .int 0, .long 0, .ref (h 2), .ref (h 3), .ref (h 4), .ref (h 5), .ref (h 6), .ref (h 7), .ref (h 8), .ref (h 9), .ref (h 10), .ref (h 11), .ref (h 12), .ref (h 13), .ref (h 14), .ref (h 15), .ref (h 16), .ref (h 17), .ref (h 18), .ref (h 19), .int 0, .int 0, .int 0, .int 0, .int 0, .int 0, .ref (h 20), .ref (h 21), .int 0, .ref (h 22), .ref (h 23), .ref (h 24), .ref (h 25), .ref (h 26), .int 0, .int 0, .ref (h 27), .ref (h 28), .ref (h 29), .ref (h 30), .ref (h 31), .int 0, .int 0, .ref (h 32), .ref (h 33), .ref (h 34), .ref (h 35), .ref (h 36), .ref (h 37)])), ((h 2), .inl (cy 0, 2, .inl (fun _ => 0)))]) [0, 2] rfl
  have hDc := hD.sub (ws' := [(mo, .inr (12, [.ref (h 0), .ref (h 1), .int 0, .int 0, .int 0, .int (-1), .int 0, .int 0, .int 0, .int 0, .long 0, .ref (h 2), .ref (h 3), .ref (h 4), .ref (h 5), .ref (h 6), .ref (h 7), .ref (h 8), .ref (h 9), .ref (h 10), .ref (h 11), .ref (h 12), .ref (h 13), .ref (h 14), .ref (h 15), .ref (h 16), .ref (h 17), .ref (h 18), .ref (h 19), .int 0, .int 0, .int 0, .int 0, .int 0, .int 0, .ref (h 20), .ref (h 21), .int 0, .ref (h 22), .ref (h 23), .ref (h 24), .ref (h 25), .ref (h 26), .int 0, .int 0, .ref (h 27), .ref (h 28), .ref (h 29), .ref (h 30), .ref (h 31), .int 0, .int 0, .ref (h 32), .ref (h 33), .ref (h 34), .ref (h 35), .ref (h 36), .ref (h 37)])), ((h 2), .inl (cy 0, 2, .inl (fun _ => 0)))]) [0, 2] (by decide) rfl
  refine va_calli (va_runV (As := [.int n]) (rest := []) ⟨hx, hb, hml, hown, ht⟩ (m_isTune l G cy _ mo n (h 2) (.ref (h 0)) (.ref (h 1)) (.int 0) (.int 0) (.int 0) (.int (-1)) (.int 0) (.int 0) (.int 0) (.int 0) (.long 0) (.ref (h 3)) (.ref (h 4)) (.ref (h 5)) (.ref (h 6)) (.ref (h 7)) (.ref (h 8)) (.ref (h 9)) (.ref (h 10)) (.ref (h 11)) (.ref (h 12)) (.ref (h 13)) (.ref (h 14)) (.ref (h 15)) (.ref (h 16)) (.ref (h 17)) (.ref (h 18)) (.ref (h 19)) (.int 0) (.int 0) (.int 0) (.int 0) (.int 0) (.ref (h 20)) (.ref (h 21)) (.int 0) (.ref (h 22)) (.ref (h 23)) (.ref (h 24)) (.ref (h 25)) (.ref (h 26)) (.int 0) (.int 0) (.ref (h 27)) (.ref (h 28)) (.ref (h 29)) (.ref (h 30)) (.ref (h 31)) (.int 0) (.int 0) (.ref (h 32)) (.ref (h 33)) (.ref (h 34)) (.ref (h 35)) (.ref (h 36)) (.ref (h 37)) ) (cwV 1 ht (gv k_336 k_337 k_338 k_314 k_335) rfl rfl rfl (by decide +kernel) ⟨Nat.le_of_ble_eq_true rfl, Nat.le_of_ble_eq_true rfl⟩) ⟨En.blind, va_recv hK hP (ci := 12) (q0 := 0) rfl rfl, fun U hU hW => ⟨rfl, En.of hU hW hPc hK hDc hN⟩⟩ rfl rfl hl.1 rfl (lv_room (Nat.le_of_ble_eq_true rfl)) dX12_off_2 ⟨Nat.le_of_ble_eq_true rfl, Nat.le_of_ble_eq_true rfl⟩) hS (fun q _ h => hFc q h) hFc (fun r_2 u_1 t H locs ht9 hvm hw hB hz1 hk1 hS => ?_)
  have hP := fr_keep hP hk1
  obtain rfl : r_2 = 0 := hw.1
  refine lv_if_eq (tgt := 43) hx hb dX12_off_5 (by decide) (fun _ => ?_) (fun c9 => absurd (by decide) c9)
  refine lv_iconst (v := (-1)) hx hb dX12_off_43 (by decide) ?_
  refine W.widen (k := 0) (n := 0) (Nat.le_of_ble_eq_true rfl) (Nat.le_of_ble_eq_true rfl) ?_
  exact W.iret (v := (-1)) hx hb hr (fun t ht9 hW => ⟨⟨(-1), (), rfl, ⟨rfl, trivial⟩, trivial⟩, hS.F ht9⟩) hS.2.2 dX12_off_44
set_option maxHeartbeats 4000000 in
set_option maxRecDepth 100000 in
theorem m_in (l : Launch) (G : va_G) (cy : Nat → ClassId) (sz : Nat) (mo : Nat) (h : Nat → Nat) (f : Nat → Nat → Int32) (n : Int32) (n2 : Int32) (n3 : Int32)  : Met l yX12_in (.code yX12_in cX12_in 4 (some .int) :: TBg) ({ frames := 3, cells := 0, slots := 0, locals := 192 }) (va_Pc [.ref mo, .int n, .int n2, .int n3] (En G cy (WM cy mo h f) sz)) (va_Qi (fun (r : Int32) (_ : Unit) => r = (-1) ∧ True) (fun _ _ => True) (va_A (WM cy mo h f) sz)) 0 0 (va_A (WM cy mo h f) sz) := by
  refine Met.ofW (cc := cX12_in) (maxL := 4) (ret := (some .int)) (by decide) rfl ?_
  intro p e s m args below meth c s₁ B hml hv
  obtain ⟨rfl, hsz, hP, hK, hD0, hN⟩ := hv
  have hx := B.exec
  have hb := B.bytes
  have hr := B.returns
  have hts := atoms_spec (ws := .code yX12_in cX12_in 4 (some .int) :: TBg) B.pre
  have ht : ∀ w ∈ TBg, w.before _ s = true := fun w h => hts w (List.mem_cons_of_mem _ h)
  have hown : s.vm.findClass RX12 = some m.cls := findClass_of_methodNamed B.named
  have hlocks := B.notSynchronized
  subst hsz
  have hD := hD0.self (sz := s.heap.size)
  generalize hAe : va_A (WM cy mo h f) s.heap.size = A at hD ⊢
  have hA : ∀ q : Nat, s.heap.size ≤ q → A q := fun q h => by rw [← hAe]; exact Or.inr h
  have hS : va_S A s.heap s.heap [] := va_S.rf
  have hl := lv_entry ([.ref mo, .int n, .int n2, .int n3]) (n := 4) (Nat.le_of_ble_eq_true rfl)
  rw [lg_entry_eq]
  generalize (lg_sl ([.ref mo, .int n, .int n2, .int n3]) ++ List.replicate (4 - (lg_sl ([.ref mo, .int n, .int n2, .int n3])).length) Slot.unset).toArray = ls at hl ⊢
  have hl : lv_has ls 4 [(0, .ref mo), (1, .int n), (2, .int n2), (3, .int n3)] := hl
  refine lv_aload_n hx hb dX12_in_0 rfl (lv_at hl 0 rfl) ?_
  refine lv_iload_n hx hb dX12_in_1 rfl (lv_at hl 1 rfl) ?_
  have hFc := fr_new hS hA
  have hPc := hP.sub (ws' := [(mo, .inr (12, [.ref (h 0), .ref (h 1), .int 0, .int 0, .int 0, .int (-1), .int 0, .int 0, .int 0, .int 0, .long 0, .ref (h 2), .ref (h 3), .ref (h 4), .ref (h 5), .ref (h 6), .ref (h 7), .ref (h 8), .ref (h 9), .ref (h 10), .ref (h 11), .ref (h 12), .ref (h 13), .ref (h 14), .ref (h 15), .ref (h 16), .ref (h 17), .ref (h 18), .ref (h 19), .int 0, .int 0, .int 0, .int 0, .int 0, .int 0, .ref (h 20), .ref (h 21), .int 0, .ref (h 22), .ref (h 23), .ref (h 24), .ref (h 25), .ref (h 26), .int 0, .int 0, .ref (h 27), .ref (h 28), .ref (h 29), .ref (h 30), .ref (h 31), .int 0, .int 0, .ref (h 32), .ref (h 33), .ref (h 34), .ref (h 35), .ref (h 36), .ref (h 37)])), ((h 2), .inl (cy 0, 2, .inl (fun _ => 0)))]) [0, 2] rfl
  have hDc := hD.sub (ws' := [(mo, .inr (12, [.ref (h 0), .ref (h 1), .int 0, .int 0, .int 0, .int (-1), .int 0, .int 0, .int 0, .int 0, .long 0, .ref (h 2), .ref (h 3), .ref (h 4), .ref (h 5), .ref (h 6), .ref (h 7), .ref (h 8), .ref (h 9), .ref (h 10), .ref (h 11), .ref (h 12), .ref (h 13), .ref (h 14), .ref (h 15), .ref (h 16), .ref (h 17), .ref (h 18), .ref (h 19), .int 0, .int 0, .int 0, .int 0, .int 0, .int 0, .ref (h 20), .ref (h 21), .int 0, .ref (h 22), .ref (h 23), .ref (h 24), .ref (h 25), .ref (h 26), .int 0, .int 0, .ref (h 27), .ref (h 28), .ref (h 29), .ref (h 30), .ref (h 31), .int 0, .int 0, .ref (h 32), .ref (h 33), .ref (h 34), .ref (h 35), .ref (h 36), .ref (h 37)])), ((h 2), .inl (cy 0, 2, .inl (fun _ => 0)))]) [0, 2] (by decide) rfl
  refine va_calli (va_runV (As := [.int n]) (rest := []) ⟨hx, hb, hml, hown, ht⟩ (m_isTune l G cy _ mo n (h 2) (.ref (h 0)) (.ref (h 1)) (.int 0) (.int 0) (.int 0) (.int (-1)) (.int 0) (.int 0) (.int 0) (.int 0) (.long 0) (.ref (h 3)) (.ref (h 4)) (.ref (h 5)) (.ref (h 6)) (.ref (h 7)) (.ref (h 8)) (.ref (h 9)) (.ref (h 10)) (.ref (h 11)) (.ref (h 12)) (.ref (h 13)) (.ref (h 14)) (.ref (h 15)) (.ref (h 16)) (.ref (h 17)) (.ref (h 18)) (.ref (h 19)) (.int 0) (.int 0) (.int 0) (.int 0) (.int 0) (.ref (h 20)) (.ref (h 21)) (.int 0) (.ref (h 22)) (.ref (h 23)) (.ref (h 24)) (.ref (h 25)) (.ref (h 26)) (.int 0) (.int 0) (.ref (h 27)) (.ref (h 28)) (.ref (h 29)) (.ref (h 30)) (.ref (h 31)) (.int 0) (.int 0) (.ref (h 32)) (.ref (h 33)) (.ref (h 34)) (.ref (h 35)) (.ref (h 36)) (.ref (h 37)) ) (cwV 1 ht (gv k_336 k_337 k_338 k_314 k_335) rfl rfl rfl (by decide +kernel) ⟨Nat.le_of_ble_eq_true rfl, Nat.le_of_ble_eq_true rfl⟩) ⟨En.blind, va_recv hK hP (ci := 12) (q0 := 0) rfl rfl, fun U hU hW => ⟨rfl, En.of hU hW hPc hK hDc hN⟩⟩ rfl rfl hl.1 rfl (lv_room (Nat.le_of_ble_eq_true rfl)) dX12_in_2 ⟨Nat.le_of_ble_eq_true rfl, Nat.le_of_ble_eq_true rfl⟩) hS (fun q _ h => hFc q h) hFc (fun r_2 u_1 t H locs ht9 hvm hw hB hz1 hk1 hS => ?_)
  have hP := fr_keep hP hk1
  obtain rfl : r_2 = 0 := hw.1
  refine lv_if_eq (tgt := 34) hx hb dX12_in_5 (by decide) (fun _ => ?_) (fun c9 => absurd (by decide) c9)
  refine lv_iconst (v := (-1)) hx hb dX12_in_34 (by decide) ?_
  refine W.widen (k := 0) (n := 0) (Nat.le_of_ble_eq_true rfl) (Nat.le_of_ble_eq_true rfl) ?_
  exact W.iret (v := (-1)) hx hb hr (fun t ht9 hW => ⟨⟨(-1), (), rfl, ⟨rfl, trivial⟩, trivial⟩, hS.F ht9⟩) hS.2.2 dX12_in_35
set_option maxHeartbeats 4000000 in
set_option maxRecDepth 100000 in
theorem m_doors (l : Launch) (G : va_G) (cy : Nat → ClassId) (sz : Nat) (mo : Nat) (h : Nat → Nat) (f : Nat → Nat → Int32) (n : Int32) (n2 : Int32)  : Met l yX12_doors (.code yX12_doors cX12_doors 5 (some .int) :: TBg) ({ frames := 3, cells := 0, slots := 0, locals := 192 }) (va_Pc [.ref mo, .int n, .int n2] (En G cy (WM cy mo h f) sz)) (va_Qi (fun (r : Int32) (_ : Unit) => r = (-1) ∧ True) (fun _ _ => True) (va_A (WM cy mo h f) sz)) 0 0 (va_A (WM cy mo h f) sz) := by
  refine Met.ofW (cc := cX12_doors) (maxL := 5) (ret := (some .int)) (by decide) rfl ?_
  intro p e s m args below meth c s₁ B hml hv
  obtain ⟨rfl, hsz, hP, hK, hD0, hN⟩ := hv
  have hx := B.exec
  have hb := B.bytes
  have hr := B.returns
  have hts := atoms_spec (ws := .code yX12_doors cX12_doors 5 (some .int) :: TBg) B.pre
  have ht : ∀ w ∈ TBg, w.before _ s = true := fun w h => hts w (List.mem_cons_of_mem _ h)
  have hown : s.vm.findClass RX12 = some m.cls := findClass_of_methodNamed B.named
  have hlocks := B.notSynchronized
  subst hsz
  have hD := hD0.self (sz := s.heap.size)
  generalize hAe : va_A (WM cy mo h f) s.heap.size = A at hD ⊢
  have hA : ∀ q : Nat, s.heap.size ≤ q → A q := fun q h => by rw [← hAe]; exact Or.inr h
  have hS : va_S A s.heap s.heap [] := va_S.rf
  have hl := lv_entry ([.ref mo, .int n, .int n2]) (n := 5) (Nat.le_of_ble_eq_true rfl)
  rw [lg_entry_eq]
  generalize (lg_sl ([.ref mo, .int n, .int n2]) ++ List.replicate (5 - (lg_sl ([.ref mo, .int n, .int n2])).length) Slot.unset).toArray = ls at hl ⊢
  have hl : lv_has ls 5 [(0, .ref mo), (1, .int n), (2, .int n2)] := hl
  refine lv_aload_n hx hb dX12_doors_0 rfl (lv_at hl 0 rfl) ?_
  refine lv_iload_n hx hb dX12_doors_1 rfl (lv_at hl 1 rfl) ?_
  have hFc := fr_new hS hA
  have hPc := hP.sub (ws' := [(mo, .inr (12, [.ref (h 0), .ref (h 1), .int 0, .int 0, .int 0, .int (-1), .int 0, .int 0, .int 0, .int 0, .long 0, .ref (h 2), .ref (h 3), .ref (h 4), .ref (h 5), .ref (h 6), .ref (h 7), .ref (h 8), .ref (h 9), .ref (h 10), .ref (h 11), .ref (h 12), .ref (h 13), .ref (h 14), .ref (h 15), .ref (h 16), .ref (h 17), .ref (h 18), .ref (h 19), .int 0, .int 0, .int 0, .int 0, .int 0, .int 0, .ref (h 20), .ref (h 21), .int 0, .ref (h 22), .ref (h 23), .ref (h 24), .ref (h 25), .ref (h 26), .int 0, .int 0, .ref (h 27), .ref (h 28), .ref (h 29), .ref (h 30), .ref (h 31), .int 0, .int 0, .ref (h 32), .ref (h 33), .ref (h 34), .ref (h 35), .ref (h 36), .ref (h 37)])), ((h 2), .inl (cy 0, 2, .inl (fun _ => 0)))]) [0, 2] rfl
  have hDc := hD.sub (ws' := [(mo, .inr (12, [.ref (h 0), .ref (h 1), .int 0, .int 0, .int 0, .int (-1), .int 0, .int 0, .int 0, .int 0, .long 0, .ref (h 2), .ref (h 3), .ref (h 4), .ref (h 5), .ref (h 6), .ref (h 7), .ref (h 8), .ref (h 9), .ref (h 10), .ref (h 11), .ref (h 12), .ref (h 13), .ref (h 14), .ref (h 15), .ref (h 16), .ref (h 17), .ref (h 18), .ref (h 19), .int 0, .int 0, .int 0, .int 0, .int 0, .int 0, .ref (h 20), .ref (h 21), .int 0, .ref (h 22), .ref (h 23), .ref (h 24), .ref (h 25), .ref (h 26), .int 0, .int 0, .ref (h 27), .ref (h 28), .ref (h 29), .ref (h 30), .ref (h 31), .int 0, .int 0, .ref (h 32), .ref (h 33), .ref (h 34), .ref (h 35), .ref (h 36), .ref (h 37)])), ((h 2), .inl (cy 0, 2, .inl (fun _ => 0)))]) [0, 2] (by decide) rfl
  refine va_calli (va_runV (As := [.int n]) (rest := []) ⟨hx, hb, hml, hown, ht⟩ (m_isTune l G cy _ mo n (h 2) (.ref (h 0)) (.ref (h 1)) (.int 0) (.int 0) (.int 0) (.int (-1)) (.int 0) (.int 0) (.int 0) (.int 0) (.long 0) (.ref (h 3)) (.ref (h 4)) (.ref (h 5)) (.ref (h 6)) (.ref (h 7)) (.ref (h 8)) (.ref (h 9)) (.ref (h 10)) (.ref (h 11)) (.ref (h 12)) (.ref (h 13)) (.ref (h 14)) (.ref (h 15)) (.ref (h 16)) (.ref (h 17)) (.ref (h 18)) (.ref (h 19)) (.int 0) (.int 0) (.int 0) (.int 0) (.int 0) (.ref (h 20)) (.ref (h 21)) (.int 0) (.ref (h 22)) (.ref (h 23)) (.ref (h 24)) (.ref (h 25)) (.ref (h 26)) (.int 0) (.int 0) (.ref (h 27)) (.ref (h 28)) (.ref (h 29)) (.ref (h 30)) (.ref (h 31)) (.int 0) (.int 0) (.ref (h 32)) (.ref (h 33)) (.ref (h 34)) (.ref (h 35)) (.ref (h 36)) (.ref (h 37)) ) (cwV 1 ht (gv k_336 k_337 k_338 k_314 k_335) rfl rfl rfl (by decide +kernel) ⟨Nat.le_of_ble_eq_true rfl, Nat.le_of_ble_eq_true rfl⟩) ⟨En.blind, va_recv hK hP (ci := 12) (q0 := 0) rfl rfl, fun U hU hW => ⟨rfl, En.of hU hW hPc hK hDc hN⟩⟩ rfl rfl hl.1 rfl (lv_room (Nat.le_of_ble_eq_true rfl)) dX12_doors_2 ⟨Nat.le_of_ble_eq_true rfl, Nat.le_of_ble_eq_true rfl⟩) hS (fun q _ h => hFc q h) hFc (fun r_2 u_1 t H locs ht9 hvm hw hB hz1 hk1 hS => ?_)
  have hP := fr_keep hP hk1
  obtain rfl : r_2 = 0 := hw.1
  refine lv_if_ne (tgt := 10) hx hb dX12_doors_5 (by decide) (fun c9 => absurd (by decide) c9) (fun _ => ?_)
  refine lv_iconst (v := (-1)) hx hb dX12_doors_8 (by decide) ?_
  refine W.widen (k := 0) (n := 0) (Nat.le_of_ble_eq_true rfl) (Nat.le_of_ble_eq_true rfl) ?_
  exact W.iret (v := (-1)) hx hb hr (fun t ht9 hW => ⟨⟨(-1), (), rfl, ⟨rfl, trivial⟩, trivial⟩, hS.F ht9⟩) hS.2.2 dX12_doors_9
set_option maxHeartbeats 4000000 in
set_option maxRecDepth 100000 in
theorem m_asked (l : Launch) (G : va_G) (cy : Nat → ClassId) (sz : Nat) (mo : Nat) (h : Nat → Nat) (f : Nat → Nat → Int32) (n : Int32) (n2 : Int32) (n3 : Int32)  : Met l yX12_asked (.code yX12_asked cX12_asked 4 (some .int) :: TBg) ({ frames := 3, cells := 0, slots := 0, locals := 192 }) (va_Pc [.ref mo, .int n, .int n2, .int n3] (En G cy (WM cy mo h f) sz)) (va_Qi (fun (r : Int32) (_ : Unit) => r = (-1000000) ∧ True) (fun _ _ => True) (va_A (WM cy mo h f) sz)) 0 0 (va_A (WM cy mo h f) sz) := by
  refine Met.ofW (cc := cX12_asked) (maxL := 4) (ret := (some .int)) (by decide) rfl ?_
  intro p e s m args below meth c s₁ B hml hv
  obtain ⟨rfl, hsz, hP, hK, hD0, hN⟩ := hv
  have hx := B.exec
  have hb := B.bytes
  have hr := B.returns
  have hts := atoms_spec (ws := .code yX12_asked cX12_asked 4 (some .int) :: TBg) B.pre
  have ht : ∀ w ∈ TBg, w.before _ s = true := fun w h => hts w (List.mem_cons_of_mem _ h)
  have hown : s.vm.findClass RX12 = some m.cls := findClass_of_methodNamed B.named
  have hlocks := B.notSynchronized
  subst hsz
  have hD := hD0.self (sz := s.heap.size)
  generalize hAe : va_A (WM cy mo h f) s.heap.size = A at hD ⊢
  have hA : ∀ q : Nat, s.heap.size ≤ q → A q := fun q h => by rw [← hAe]; exact Or.inr h
  have hS : va_S A s.heap s.heap [] := va_S.rf
  have hl := lv_entry ([.ref mo, .int n, .int n2, .int n3]) (n := 4) (Nat.le_of_ble_eq_true rfl)
  rw [lg_entry_eq]
  generalize (lg_sl ([.ref mo, .int n, .int n2, .int n3]) ++ List.replicate (4 - (lg_sl ([.ref mo, .int n, .int n2, .int n3])).length) Slot.unset).toArray = ls at hl ⊢
  have hl : lv_has ls 4 [(0, .ref mo), (1, .int n), (2, .int n2), (3, .int n3)] := hl
  refine lv_aload_n hx hb dX12_asked_0 rfl (lv_at hl 0 rfl) ?_
  refine lv_iload_n hx hb dX12_asked_1 rfl (lv_at hl 1 rfl) ?_
  have hFc := fr_new hS hA
  have hPc := hP.sub (ws' := [(mo, .inr (12, [.ref (h 0), .ref (h 1), .int 0, .int 0, .int 0, .int (-1), .int 0, .int 0, .int 0, .int 0, .long 0, .ref (h 2), .ref (h 3), .ref (h 4), .ref (h 5), .ref (h 6), .ref (h 7), .ref (h 8), .ref (h 9), .ref (h 10), .ref (h 11), .ref (h 12), .ref (h 13), .ref (h 14), .ref (h 15), .ref (h 16), .ref (h 17), .ref (h 18), .ref (h 19), .int 0, .int 0, .int 0, .int 0, .int 0, .int 0, .ref (h 20), .ref (h 21), .int 0, .ref (h 22), .ref (h 23), .ref (h 24), .ref (h 25), .ref (h 26), .int 0, .int 0, .ref (h 27), .ref (h 28), .ref (h 29), .ref (h 30), .ref (h 31), .int 0, .int 0, .ref (h 32), .ref (h 33), .ref (h 34), .ref (h 35), .ref (h 36), .ref (h 37)])), ((h 3), .inl (cy 0, 2, .inl (fun _ => 0)))]) [0, 3] rfl
  have hDc := hD.sub (ws' := [(mo, .inr (12, [.ref (h 0), .ref (h 1), .int 0, .int 0, .int 0, .int (-1), .int 0, .int 0, .int 0, .int 0, .long 0, .ref (h 2), .ref (h 3), .ref (h 4), .ref (h 5), .ref (h 6), .ref (h 7), .ref (h 8), .ref (h 9), .ref (h 10), .ref (h 11), .ref (h 12), .ref (h 13), .ref (h 14), .ref (h 15), .ref (h 16), .ref (h 17), .ref (h 18), .ref (h 19), .int 0, .int 0, .int 0, .int 0, .int 0, .int 0, .ref (h 20), .ref (h 21), .int 0, .ref (h 22), .ref (h 23), .ref (h 24), .ref (h 25), .ref (h 26), .int 0, .int 0, .ref (h 27), .ref (h 28), .ref (h 29), .ref (h 30), .ref (h 31), .int 0, .int 0, .ref (h 32), .ref (h 33), .ref (h 34), .ref (h 35), .ref (h 36), .ref (h 37)])), ((h 3), .inl (cy 0, 2, .inl (fun _ => 0)))]) [0, 3] (by decide) rfl
  refine va_calli (va_runV (As := [.int n]) (rest := []) ⟨hx, hb, hml, hown, ht⟩ (m_isLock l G cy _ mo n (h 3) (.ref (h 0)) (.ref (h 1)) (.int 0) (.int 0) (.int 0) (.int (-1)) (.int 0) (.int 0) (.int 0) (.int 0) (.long 0) (.ref (h 2)) (.ref (h 4)) (.ref (h 5)) (.ref (h 6)) (.ref (h 7)) (.ref (h 8)) (.ref (h 9)) (.ref (h 10)) (.ref (h 11)) (.ref (h 12)) (.ref (h 13)) (.ref (h 14)) (.ref (h 15)) (.ref (h 16)) (.ref (h 17)) (.ref (h 18)) (.ref (h 19)) (.int 0) (.int 0) (.int 0) (.int 0) (.int 0) (.ref (h 20)) (.ref (h 21)) (.int 0) (.ref (h 22)) (.ref (h 23)) (.ref (h 24)) (.ref (h 25)) (.ref (h 26)) (.int 0) (.int 0) (.ref (h 27)) (.ref (h 28)) (.ref (h 29)) (.ref (h 30)) (.ref (h 31)) (.int 0) (.int 0) (.ref (h 32)) (.ref (h 33)) (.ref (h 34)) (.ref (h 35)) (.ref (h 36)) (.ref (h 37)) ) (cwV 1 ht (gv k_341 k_342 k_343 k_314 k_340) rfl rfl rfl (by decide +kernel) ⟨Nat.le_of_ble_eq_true rfl, Nat.le_of_ble_eq_true rfl⟩) ⟨En.blind, va_recv hK hP (ci := 12) (q0 := 0) rfl rfl, fun U hU hW => ⟨rfl, En.of hU hW hPc hK hDc hN⟩⟩ rfl rfl hl.1 rfl (lv_room (Nat.le_of_ble_eq_true rfl)) dX12_asked_2 ⟨Nat.le_of_ble_eq_true rfl, Nat.le_of_ble_eq_true rfl⟩) hS (fun q _ h => hFc q h) hFc (fun r_2 u_1 t H locs ht9 hvm hw hB hz1 hk1 hS => ?_)
  have hP := fr_keep hP hk1
  obtain rfl : r_2 = 0 := hw.1
  refine lv_if_eq (tgt := 36) hx hb dX12_asked_5 (by decide) (fun _ => ?_) (fun c9 => absurd (by decide) c9)
  refine lv_ldcw (v := (-1000000)) hx hb hown (ht _ k_339) dX12_asked_36 ?_
  refine W.widen (k := 0) (n := 0) (Nat.le_of_ble_eq_true rfl) (Nat.le_of_ble_eq_true rfl) ?_
  exact W.iret (v := (-1000000)) hx hb hr (fun t ht9 hW => ⟨⟨(-1000000), (), rfl, ⟨rfl, trivial⟩, trivial⟩, hS.F ht9⟩) hS.2.2 dX12_asked_39
set_option maxHeartbeats 4000000 in
set_option maxRecDepth 100000 in
theorem m_dealt (l : Launch) (G : va_G) (cy : Nat → ClassId) (sz : Nat) (mo : Nat) (h : Nat → Nat) (f : Nat → Nat → Int32) (n : Int32)  : Met l yX12_dealt (.code yX12_dealt cX12_dealt 7 (some .int) :: TBg) ({ frames := 2, cells := 0, slots := 0, locals := 128 }) (va_Pc [.ref mo, .int n] (En G cy (WM cy mo h f) sz)) (va_Qi (fun (r : Int32) (_ : Unit) => r = (sp_rng 99 n) ∧ True) (fun _ _ => True) (va_A (WM cy mo h f) sz)) 0 0 (va_A (WM cy mo h f) sz) := by
  refine Met.ofW (cc := cX12_dealt) (maxL := 7) (ret := (some .int)) (by decide) rfl ?_
  intro p e s m args below meth c s₁ B hml hv
  obtain ⟨rfl, hsz, hP, hK, hD0, hN⟩ := hv
  have hx := B.exec
  have hb := B.bytes
  have hr := B.returns
  have hts := atoms_spec (ws := .code yX12_dealt cX12_dealt 7 (some .int) :: TBg) B.pre
  have ht : ∀ w ∈ TBg, w.before _ s = true := fun w h => hts w (List.mem_cons_of_mem _ h)
  have hown : s.vm.findClass RX12 = some m.cls := findClass_of_methodNamed B.named
  have hlocks := B.notSynchronized
  subst hsz
  have hD := hD0.self (sz := s.heap.size)
  generalize hAe : va_A (WM cy mo h f) s.heap.size = A at hD ⊢
  have hA : ∀ q : Nat, s.heap.size ≤ q → A q := fun q h => by rw [← hAe]; exact Or.inr h
  have hS : va_S A s.heap s.heap [] := va_S.rf
  have hl := lv_entry ([.ref mo, .int n]) (n := 7) (Nat.le_of_ble_eq_true rfl)
  rw [lg_entry_eq]
  generalize (lg_sl ([.ref mo, .int n]) ++ List.replicate (7 - (lg_sl ([.ref mo, .int n])).length) Slot.unset).toArray = ls at hl ⊢
  have hl : lv_has ls 7 [(0, .ref mo), (1, .int n)] := hl
  refine lv_iload_n hx hb dX12_dealt_0 rfl (lv_at hl 1 rfl) ?_
  refine lv_iconst (v := 0) hx hb dX12_dealt_1 (by decide) ?_
  refine lv_bipush (v := 99) hx hb dX12_dealt_2 (by decide) ?_
  have hFc := fr_new hS hA
  have hPc := hP.sub (ws' := []) [] rfl
  have hDc := hD.sub (ws' := []) [] (by decide) rfl
  refine va_calli (va_runS (As := [.int n, .int 0, .int 99]) (rest := []) ⟨hx, hb, hml, hown, ht⟩ (m_isIn l G cy _ n 0 99 ) (va_cwS 3 ht (gs k_317 k_318 k_314 k_316) rfl rfl rfl (by decide +kernel) ⟨Nat.le_of_ble_eq_true rfl, Nat.le_of_ble_eq_true rfl⟩) ⟨En.blind, fun U hU hW => ⟨rfl, En.of hU hW hPc hK hDc hN⟩⟩ rfl rfl hl.1 rfl (lv_room (Nat.le_of_ble_eq_true rfl)) dX12_dealt_4 ⟨Nat.le_of_ble_eq_true rfl, Nat.le_of_ble_eq_true rfl⟩) hS (fun q _ h => hFc q h) hFc (fun r_2 u_1 t H locs ht9 hvm hw hB hz1 hk1 hS => ?_)
  have hP := fr_keep hP hk1
  have e_3 := hw.1
  refine lv_if_ne (tgt := 12) hx hb dX12_dealt_7 (by decide) (fun c_4 => ?_) (fun c_4 => ?_)
  · skip
    have g_5 := ow_i1 e_3 c_4
    refine lv_aload_n hx hb dX12_dealt_12 rfl (lv_at hl 0 rfl) ?_
    refine va_get (ci := 12) (v := .ref (h 2)) (C := RX12) (T := TX12) (N := 58) hx hb ht iX12 hown hK hP 0 rfl rfl 11 (by decide) (ht _ k_268) (fun _ h9 => h9) rfl dX12_dealt_13 ?_
    refine lv_aload_n hx hb dX12_dealt_16 rfl (lv_at hl 0 rfl) ?_
    refine va_get (ci := 12) (v := .int 0) (C := RX12) (T := TX12) (N := 58) hx hb ht iX12 hown hK hP 0 rfl rfl 29 (by decide) (ht _ k_315) (fun _ h9 => h9) rfl dX12_dealt_17 ?_
    refine va_iald hx hb hK hP 2 0 rfl rfl (in_lit (by decide +kernel)) dX12_dealt_20 ?_
    refine ow_top 0 rfl ?_
    refine lv_istore_n (lv' := [(2, .int 0), (0, .ref mo), (1, .int n)]) hx hb dX12_dealt_21 rfl hl (by decide) rfl (fun ls hl => ?_)
    refine lv_iconst (v := 0) hx hb dX12_dealt_22 (by decide) ?_
    refine lv_istore_n (lv' := [(3, .int 0), (2, .int 0), (0, .ref mo), (1, .int n)]) hx hb dX12_dealt_23 rfl hl (by decide) rfl (fun ls hl => ?_)
    refine lv_iload_n hx hb dX12_dealt_24 rfl (lv_at hl 0 rfl) ?_
    refine lv_iload_n hx hb dX12_dealt_25 rfl (lv_at hl 1 rfl) ?_
    refine lv_icmp_ge (tgt := 114) hx hb dX12_dealt_26 (by decide) (fun _ => ?_) (fun c9 => absurd (by decide) c9)
    refine lv_iconst (v := 0) hx hb dX12_dealt_114 (by decide) ?_
    refine lv_istore_n (lv' := [(3, .int 0), (2, .int 0), (0, .ref mo), (1, .int n)]) hx hb dX12_dealt_115 rfl hl (by decide) rfl (fun ls hl => ?_)
    refine lv_iconst (v := 1) hx hb dX12_dealt_116 (by decide) ?_
    refine lv_istore (lv' := [(4, .int 1), (3, .int 0), (2, .int 0), (0, .ref mo), (1, .int n)]) hx hb dX12_dealt_117 hl (by decide) rfl (fun ls hl => ?_)
    refine lv_iload hx hb dX12_dealt_119 (lv_at hl 0 rfl) ?_
    refine lv_iconst (v := 1) hx hb dX12_dealt_121 (by decide) ?_
    refine lv_iload_n hx hb dX12_dealt_122 rfl (lv_at hl 2 rfl) ?_
    refine lv_ishl hx hb dX12_dealt_123 ?_
    refine ow_top 1 (by decide +kernel) ?_
    refine lv_icmp_ge (tgt := 209) hx hb dX12_dealt_124 (by decide) (fun _ => ?_) (fun c9 => absurd (by decide) c9)
    refine lv_iload_n hx hb dX12_dealt_209 rfl (lv_at hl 1 rfl) ?_
    refine W.widen (k := 0) (n := 0) (Nat.le_of_ble_eq_true rfl) (Nat.le_of_ble_eq_true rfl) ?_
    exact W.iret (v := 0) hx hb hr (fun t ht9 hW => ⟨⟨0, (), rfl, ⟨(by unfold sp_rng; have z0 : (0 : Int32).toInt = 0 := (by decide); have z1 : (99 : Int32).toInt = 99 := (by decide); split <;> first | rfl | (exfalso; rename_i hc9; (try simp only [ow_lt, ow_le, ow_eq, true_and, and_true] at hc9 g_5); omega)), trivial⟩, trivial⟩, hS.F ht9⟩) hS.2.2 dX12_dealt_210
  · skip
    have g_6 := ow_i0 e_3 c_4
    refine lv_iconst (v := (-1)) hx hb dX12_dealt_10 (by decide) ?_
    refine W.widen (k := 0) (n := 0) (Nat.le_of_ble_eq_true rfl) (Nat.le_of_ble_eq_true rfl) ?_
    exact W.iret (v := (-1)) hx hb hr (fun t ht9 hW => ⟨⟨(-1), (), rfl, ⟨(by unfold sp_rng; have z0 : (0 : Int32).toInt = 0 := (by decide); have z1 : (99 : Int32).toInt = 99 := (by decide); split <;> first | rfl | (exfalso; rename_i hc9; (try simp only [ow_lt, ow_le, ow_eq, true_and, and_true] at hc9 g_6); omega)), trivial⟩, trivial⟩, hS.F ht9⟩) hS.2.2 dX12_dealt_11
set_option maxHeartbeats 4000000 in
set_option maxRecDepth 100000 in
theorem m_master (l : Launch) (G : va_G) (cy : Nat → ClassId) (sz : Nat) (mo : Nat) (h : Nat → Nat) (f : Nat → Nat → Int32) (n : Int32) (n2 : Int32)  : Met l yX12_master (.code yX12_master cX12_master 3 (some .int) :: TBg) ({ frames := 3, cells := 0, slots := 0, locals := 192 }) (va_Pc [.ref mo, .int n, .int n2] (En G cy (WM cy mo h f) sz)) (va_Qi (fun (r : Int32) (_ : Unit) => r = (sp_master n n2) ∧ True) (fun _ _ => True) (va_A (WM cy mo h f) sz)) 0 0 (va_A (WM cy mo h f) sz) := by
  refine Met.ofW (cc := cX12_master) (maxL := 3) (ret := (some .int)) (by decide) rfl ?_
  intro p e s m args below meth c s₁ B hml hv
  obtain ⟨rfl, hsz, hP, hK, hD0, hN⟩ := hv
  have hx := B.exec
  have hb := B.bytes
  have hr := B.returns
  have hts := atoms_spec (ws := .code yX12_master cX12_master 3 (some .int) :: TBg) B.pre
  have ht : ∀ w ∈ TBg, w.before _ s = true := fun w h => hts w (List.mem_cons_of_mem _ h)
  have hown : s.vm.findClass RX12 = some m.cls := findClass_of_methodNamed B.named
  have hlocks := B.notSynchronized
  subst hsz
  have hD := hD0.self (sz := s.heap.size)
  generalize hAe : va_A (WM cy mo h f) s.heap.size = A at hD ⊢
  have hA : ∀ q : Nat, s.heap.size ≤ q → A q := fun q h => by rw [← hAe]; exact Or.inr h
  have hS : va_S A s.heap s.heap [] := va_S.rf
  have hl := lv_entry ([.ref mo, .int n, .int n2]) (n := 3) (Nat.le_of_ble_eq_true rfl)
  rw [lg_entry_eq]
  generalize (lg_sl ([.ref mo, .int n, .int n2]) ++ List.replicate (3 - (lg_sl ([.ref mo, .int n, .int n2])).length) Slot.unset).toArray = ls at hl ⊢
  rcases ow_cut n 1 (by decide) with ⟨j, hj, hj2⟩ | hout
  · have hj3 : j = 0 := by omega
    rcases hj3 with rfl
    · obtain rfl : n = 0 := hj2
      have hl : lv_has ls 3 [(0, .ref mo), (1, .int 0), (2, .int n2)] := hl
      refine lv_iload_n hx hb dX12_master_0 rfl (lv_at hl 1 rfl) ?_
      refine lv_if_lt (tgt := 29) hx hb dX12_master_1 (by decide) (fun c9 => absurd c9 (by decide)) (fun _ => ?_)
      refine lv_iload_n hx hb dX12_master_4 rfl (lv_at hl 1 rfl) ?_
      refine lv_iconst (v := 1) hx hb dX12_master_5 (by decide) ?_
      refine lv_aload_n hx hb dX12_master_6 rfl (lv_at hl 0 rfl) ?_
      refine va_get (ci := 12) (v := .ref (h 2)) (C := RX12) (T := TX12) (N := 58) hx hb ht iX12 hown hK hP 0 rfl rfl 11 (by decide) (ht _ k_268) (fun _ h9 => h9) rfl dX12_master_7 ?_
      refine lv_aload_n hx hb dX12_master_10 rfl (lv_at hl 0 rfl) ?_
      refine va_get (ci := 12) (v := .int 0) (C := RX12) (T := TX12) (N := 58) hx hb ht iX12 hown hK hP 0 rfl rfl 29 (by decide) (ht _ k_315) (fun _ h9 => h9) rfl dX12_master_11 ?_
      refine va_iald hx hb hK hP 2 0 rfl rfl (in_lit (by decide +kernel)) dX12_master_14 ?_
      refine ow_top 0 rfl ?_
      refine lv_ishl hx hb dX12_master_15 ?_
      refine ow_top 1 (by decide +kernel) ?_
      refine lv_icmp_ge (tgt := 29) hx hb dX12_master_16 (by decide) (fun c9 => absurd c9 (by decide)) (fun _ => ?_)
      refine lv_iload_n hx hb dX12_master_19 rfl (lv_at hl 2 rfl) ?_
      refine lv_iconst (v := 0) hx hb dX12_master_20 (by decide) ?_
      refine lv_bipush (v := 6) hx hb dX12_master_21 (by decide) ?_
      have hFc := fr_new hS hA
      have hPc := hP.sub (ws' := []) [] rfl
      have hDc := hD.sub (ws' := []) [] (by decide) rfl
      refine va_calli (va_runS (As := [.int n2, .int 0, .int 6]) (rest := []) ⟨hx, hb, hml, hown, ht⟩ (m_isIn l G cy _ n2 0 6 ) (va_cwS 3 ht (gs k_317 k_318 k_314 k_316) rfl rfl rfl (by decide +kernel) ⟨Nat.le_of_ble_eq_true rfl, Nat.le_of_ble_eq_true rfl⟩) ⟨En.blind, fun U hU hW => ⟨rfl, En.of hU hW hPc hK hDc hN⟩⟩ rfl rfl hl.1 rfl (lv_room (Nat.le_of_ble_eq_true rfl)) dX12_master_23 ⟨Nat.le_of_ble_eq_true rfl, Nat.le_of_ble_eq_true rfl⟩) hS (fun q _ h => hFc q h) hFc (fun r_2 u_1 t H locs ht9 hvm hw hB hz1 hk1 hS => ?_)
      have hP := fr_keep hP hk1
      have e_3 := hw.1
      refine lv_if_ne (tgt := 31) hx hb dX12_master_26 (by decide) (fun c_4 => ?_) (fun c_4 => ?_)
      · skip
        have g_5 := ow_i1 e_3 c_4
        refine lv_iload_n hx hb dX12_master_31 rfl (lv_at hl 1 rfl) ?_
        have hFc := fr_new hS hA
        have hPc := hP.sub (ws' := []) [] rfl
        have hDc := hD.sub (ws' := []) [] (by decide) rfl
        refine va_calli (va_runS (As := [.int 0]) (rest := []) ⟨hx, hb, hml, hown, ht⟩ (m_bits l G cy _  ) (va_cwS 1 ht (gs k_345 k_346 k_314 k_344) rfl rfl rfl (by decide +kernel) ⟨Nat.le_of_ble_eq_true rfl, Nat.le_of_ble_eq_true rfl⟩) ⟨En.blind, fun U hU hW => ⟨rfl, En.of hU hW hPc hK hDc hN⟩⟩ rfl rfl hl.1 rfl (lv_room (Nat.le_of_ble_eq_true rfl)) dX12_master_32 ⟨Nat.le_of_ble_eq_true rfl, Nat.le_of_ble_eq_true rfl⟩) hS (fun q _ h => hFc q h) hFc (fun r_7 u_6 t H locs ht9 hvm hw hB hz1 hk1 hS => ?_)
        have hP := fr_keep hP hk1
        obtain rfl : r_7 = 0 := hw.1
        refine lv_bipush (v := 6) hx hb dX12_master_35 (by decide) ?_
        refine lv_icmp_le (tgt := 43) hx hb dX12_master_37 (by decide) (fun _ => ?_) (fun c9 => absurd (by decide) c9)
        refine lv_aload_n hx hb dX12_master_43 rfl (lv_at hl 0 rfl) ?_
        refine lv_iload_n hx hb dX12_master_44 rfl (lv_at hl 1 rfl) ?_
        have hFc := va_free (wc := [(mo, .inr (12, [.ref (h 0), .ref (h 1), .int 0, .int 0, .int 0, .int (-1), .int 0, .int 0, .int 0, .int 0, .long 0, .ref (h 2), .ref (h 3), .ref (h 4), .ref (h 5), .ref (h 6), .ref (h 7), .ref (h 8), .ref (h 9), .ref (h 10), .ref (h 11), .ref (h 12), .ref (h 13), .ref (h 14), .ref (h 15), .ref (h 16), .ref (h 17), .ref (h 18), .ref (h 19), .int 0, .int 0, .int 0, .int 0, .int 0, .int 0, .ref (h 20), .ref (h 21), .int 0, .ref (h 22), .ref (h 23), .ref (h 24), .ref (h 25), .ref (h 26), .int 0, .int 0, .ref (h 27), .ref (h 28), .ref (h 29), .ref (h 30), .ref (h 31), .int 0, .int 0, .ref (h 32), .ref (h 33), .ref (h 34), .ref (h 35), .ref (h 36), .ref (h 37)])), ((h 2), .inl (cy 0, 2, .inl (fun _ => 0)))]) hD hS hA [0, 2] rfl
        have hPc := hP.sub (ws' := [(mo, .inr (12, [.ref (h 0), .ref (h 1), .int 0, .int 0, .int 0, .int (-1), .int 0, .int 0, .int 0, .int 0, .long 0, .ref (h 2), .ref (h 3), .ref (h 4), .ref (h 5), .ref (h 6), .ref (h 7), .ref (h 8), .ref (h 9), .ref (h 10), .ref (h 11), .ref (h 12), .ref (h 13), .ref (h 14), .ref (h 15), .ref (h 16), .ref (h 17), .ref (h 18), .ref (h 19), .int 0, .int 0, .int 0, .int 0, .int 0, .int 0, .ref (h 20), .ref (h 21), .int 0, .ref (h 22), .ref (h 23), .ref (h 24), .ref (h 25), .ref (h 26), .int 0, .int 0, .ref (h 27), .ref (h 28), .ref (h 29), .ref (h 30), .ref (h 31), .int 0, .int 0, .ref (h 32), .ref (h 33), .ref (h 34), .ref (h 35), .ref (h 36), .ref (h 37)])), ((h 2), .inl (cy 0, 2, .inl (fun _ => 0)))]) [0, 2] rfl
        have hDc := hD.sub (ws' := [(mo, .inr (12, [.ref (h 0), .ref (h 1), .int 0, .int 0, .int 0, .int (-1), .int 0, .int 0, .int 0, .int 0, .long 0, .ref (h 2), .ref (h 3), .ref (h 4), .ref (h 5), .ref (h 6), .ref (h 7), .ref (h 8), .ref (h 9), .ref (h 10), .ref (h 11), .ref (h 12), .ref (h 13), .ref (h 14), .ref (h 15), .ref (h 16), .ref (h 17), .ref (h 18), .ref (h 19), .int 0, .int 0, .int 0, .int 0, .int 0, .int 0, .ref (h 20), .ref (h 21), .int 0, .ref (h 22), .ref (h 23), .ref (h 24), .ref (h 25), .ref (h 26), .int 0, .int 0, .ref (h 27), .ref (h 28), .ref (h 29), .ref (h 30), .ref (h 31), .int 0, .int 0, .ref (h 32), .ref (h 33), .ref (h 34), .ref (h 35), .ref (h 36), .ref (h 37)])), ((h 2), .inl (cy 0, 2, .inl (fun _ => 0)))]) [0, 2] (by decide) rfl
        refine va_callv (va_runV (As := [.int 0]) (rest := []) ⟨hx, hb, hml, hown, ht⟩ (m_keep l G cy _ mo (h 2) (.ref (h 0)) (.ref (h 1)) (.int 0) (.int 0) (.int 0) (.int (-1)) (.int 0) (.int 0) (.int 0) (.int 0) (.long 0) (.ref (h 3)) (.ref (h 4)) (.ref (h 5)) (.ref (h 6)) (.ref (h 7)) (.ref (h 8)) (.ref (h 9)) (.ref (h 10)) (.ref (h 11)) (.ref (h 12)) (.ref (h 13)) (.ref (h 14)) (.ref (h 15)) (.ref (h 16)) (.ref (h 17)) (.ref (h 18)) (.ref (h 19)) (.int 0) (.int 0) (.int 0) (.int 0) (.int 0) (.ref (h 20)) (.ref (h 21)) (.int 0) (.ref (h 22)) (.ref (h 23)) (.ref (h 24)) (.ref (h 25)) (.ref (h 26)) (.int 0) (.int 0) (.ref (h 27)) (.ref (h 28)) (.ref (h 29)) (.ref (h 30)) (.ref (h 31)) (.int 0) (.int 0) (.ref (h 32)) (.ref (h 33)) (.ref (h 34)) (.ref (h 35)) (.ref (h 36)) (.ref (h 37)) ) (cwV 1 ht (gv k_348 k_349 k_350 k_314 k_347) rfl rfl rfl (by decide +kernel) ⟨Nat.le_of_ble_eq_true rfl, Nat.le_of_ble_eq_true rfl⟩) ⟨En.blind, va_recv hK hP (ci := 12) (q0 := 0) rfl rfl, fun U hU hW => ⟨rfl, En.of hU hW hPc hK hDc hN⟩⟩ rfl rfl hl.1 rfl (lv_room (Nat.le_of_ble_eq_true rfl)) dX12_master_45 ⟨Nat.le_of_ble_eq_true rfl, Nat.le_of_ble_eq_true rfl⟩) hS (fun q _ h => hFc q h) hFc (fun u_8 t H locs ht9 hvm hw hB hz1 hk1 hS => ?_)
        obtain ⟨hP1, hD1⟩ := hB
        rw [ht9] at hP1
        obtain ⟨hP, hD⟩ := fr_put (wc := [(mo, .inr (12, [.ref (h 0), .ref (h 1), .int 0, .int 0, .int 0, .int (-1), .int 0, .int 0, .int 0, .int 0, .long 0, .ref (h 2), .ref (h 3), .ref (h 4), .ref (h 5), .ref (h 6), .ref (h 7), .ref (h 8), .ref (h 9), .ref (h 10), .ref (h 11), .ref (h 12), .ref (h 13), .ref (h 14), .ref (h 15), .ref (h 16), .ref (h 17), .ref (h 18), .ref (h 19), .int 0, .int 0, .int 0, .int 0, .int 0, .int 0, .ref (h 20), .ref (h 21), .int 0, .ref (h 22), .ref (h 23), .ref (h 24), .ref (h 25), .ref (h 26), .int 0, .int 0, .ref (h 27), .ref (h 28), .ref (h 29), .ref (h 30), .ref (h 31), .int 0, .int 0, .ref (h 32), .ref (h 33), .ref (h 34), .ref (h 35), .ref (h 36), .ref (h 37)])), ((h 2), .inl (cy 0, 2, .inl (fun _ => 0)))]) (w1 := [(mo, .inr (12, [.ref (h 0), .ref (h 1), .int 0, .int 0, .int 0, .int (-1), .int 0, .int 0, .int 0, .int 0, .long 0, .ref (h 2), .ref (h 3), .ref (h 4), .ref (h 5), .ref (h 6), .ref (h 7), .ref (h 8), .ref (h 9), .ref (h 10), .ref (h 11), .ref (h 12), .ref (h 13), .ref (h 14), .ref (h 15), .ref (h 16), .ref (h 17), .ref (h 18), .ref (h 19), .int 0, .int 0, .int 0, .int 0, .int 0, .int 0, .ref (h 20), .ref (h 21), .int 0, .ref (h 22), .ref (h 23), .ref (h 24), .ref (h 25), .ref (h 26), .int 0, .int 0, .ref (h 27), .ref (h 28), .ref (h 29), .ref (h 30), .ref (h 31), .int 0, .int 0, .ref (h 32), .ref (h 33), .ref (h 34), .ref (h 35), .ref (h 36), .ref (h 37)])), ((h 2), .inl (cy 0, 2, .inl (fun _ => 0)))]) hP hD [0, 2] rfl rfl rfl hk1 hP1
        clear hFc hPc hDc hP1 hD1 hz1 hk1
        refine lv_aload_n hx hb dX12_master_48 rfl (lv_at hl 0 rfl) ?_
        have hFc := va_free (wc := [(mo, .inr (12, [.ref (h 0), .ref (h 1), .int 0, .int 0, .int 0, .int (-1), .int 0, .int 0, .int 0, .int 0, .long 0, .ref (h 2), .ref (h 3), .ref (h 4), .ref (h 5), .ref (h 6), .ref (h 7), .ref (h 8), .ref (h 9), .ref (h 10), .ref (h 11), .ref (h 12), .ref (h 13), .ref (h 14), .ref (h 15), .ref (h 16), .ref (h 17), .ref (h 18), .ref (h 19), .int 0, .int 0, .int 0, .int 0, .int 0, .int 0, .ref (h 20), .ref (h 21), .int 0, .ref (h 22), .ref (h 23), .ref (h 24), .ref (h 25), .ref (h 26), .int 0, .int 0, .ref (h 27), .ref (h 28), .ref (h 29), .ref (h 30), .ref (h 31), .int 0, .int 0, .ref (h 32), .ref (h 33), .ref (h 34), .ref (h 35), .ref (h 36), .ref (h 37)]))]) hD hS hA [0] rfl
        have hPc := hP.sub (ws' := [(mo, .inr (12, [.ref (h 0), .ref (h 1), .int 0, .int 0, .int 0, .int (-1), .int 0, .int 0, .int 0, .int 0, .long 0, .ref (h 2), .ref (h 3), .ref (h 4), .ref (h 5), .ref (h 6), .ref (h 7), .ref (h 8), .ref (h 9), .ref (h 10), .ref (h 11), .ref (h 12), .ref (h 13), .ref (h 14), .ref (h 15), .ref (h 16), .ref (h 17), .ref (h 18), .ref (h 19), .int 0, .int 0, .int 0, .int 0, .int 0, .int 0, .ref (h 20), .ref (h 21), .int 0, .ref (h 22), .ref (h 23), .ref (h 24), .ref (h 25), .ref (h 26), .int 0, .int 0, .ref (h 27), .ref (h 28), .ref (h 29), .ref (h 30), .ref (h 31), .int 0, .int 0, .ref (h 32), .ref (h 33), .ref (h 34), .ref (h 35), .ref (h 36), .ref (h 37)]))]) [0] rfl
        have hDc := hD.sub (ws' := [(mo, .inr (12, [.ref (h 0), .ref (h 1), .int 0, .int 0, .int 0, .int (-1), .int 0, .int 0, .int 0, .int 0, .long 0, .ref (h 2), .ref (h 3), .ref (h 4), .ref (h 5), .ref (h 6), .ref (h 7), .ref (h 8), .ref (h 9), .ref (h 10), .ref (h 11), .ref (h 12), .ref (h 13), .ref (h 14), .ref (h 15), .ref (h 16), .ref (h 17), .ref (h 18), .ref (h 19), .int 0, .int 0, .int 0, .int 0, .int 0, .int 0, .ref (h 20), .ref (h 21), .int 0, .ref (h 22), .ref (h 23), .ref (h 24), .ref (h 25), .ref (h 26), .int 0, .int 0, .ref (h 27), .ref (h 28), .ref (h 29), .ref (h 30), .ref (h 31), .int 0, .int 0, .ref (h 32), .ref (h 33), .ref (h 34), .ref (h 35), .ref (h 36), .ref (h 37)]))]) [0] (by decide) rfl
        refine va_callv (va_runV (As := []) (rest := []) ⟨hx, hb, hml, hown, ht⟩ (m_layM l G cy _ mo (.ref (h 0)) (.ref (h 1)) (.int 0) (.int 0) (.int 0) (.int (-1)) (.int 0) (.int 0) (.int 0) (.int 0) (.long 0) (.ref (h 2)) (.ref (h 3)) (.ref (h 4)) (.ref (h 5)) (.ref (h 6)) (.ref (h 7)) (.ref (h 8)) (.ref (h 9)) (.ref (h 10)) (.ref (h 11)) (.ref (h 12)) (.ref (h 13)) (.ref (h 14)) (.ref (h 15)) (.ref (h 16)) (.ref (h 17)) (.ref (h 18)) (.ref (h 19)) (.int 0) (.int 0) (.int 0) (.int 0) (.int 0) (.int 0) (.ref (h 20)) (.ref (h 21)) (.int 0) (.ref (h 22)) (.ref (h 23)) (.ref (h 24)) (.ref (h 25)) (.ref (h 26)) (.int 0) (.ref (h 27)) (.ref (h 28)) (.ref (h 29)) (.ref (h 30)) (.ref (h 31)) (.int 0) (.int 0) (.ref (h 32)) (.ref (h 33)) (.ref (h 34)) (.ref (h 35)) (.ref (h 36)) (.ref (h 37)) ) (cwV 0 ht (gv k_352 k_353 k_354 k_314 k_351) rfl rfl rfl (by decide +kernel) ⟨Nat.le_of_ble_eq_true rfl, Nat.le_of_ble_eq_true rfl⟩) ⟨En.blind, va_recv hK hP (ci := 12) (q0 := 0) rfl rfl, fun U hU hW => ⟨rfl, En.of hU hW hPc hK hDc hN⟩⟩ rfl rfl hl.1 rfl (lv_room (Nat.le_of_ble_eq_true rfl)) dX12_master_49 ⟨Nat.le_of_ble_eq_true rfl, Nat.le_of_ble_eq_true rfl⟩) hS (fun q _ h => hFc q h) hFc (fun u_9 t H locs ht9 hvm hw hB hz1 hk1 hS => ?_)
        obtain ⟨hP1, hD1⟩ := hB
        rw [ht9] at hP1
        obtain ⟨hP, hD⟩ := fr_put (wc := [(mo, .inr (12, [.ref (h 0), .ref (h 1), .int 0, .int 0, .int 0, .int (-1), .int 0, .int 0, .int 0, .int 0, .long 0, .ref (h 2), .ref (h 3), .ref (h 4), .ref (h 5), .ref (h 6), .ref (h 7), .ref (h 8), .ref (h 9), .ref (h 10), .ref (h 11), .ref (h 12), .ref (h 13), .ref (h 14), .ref (h 15), .ref (h 16), .ref (h 17), .ref (h 18), .ref (h 19), .int 0, .int 0, .int 0, .int 0, .int 0, .int 0, .ref (h 20), .ref (h 21), .int 0, .ref (h 22), .ref (h 23), .ref (h 24), .ref (h 25), .ref (h 26), .int 0, .int 0, .ref (h 27), .ref (h 28), .ref (h 29), .ref (h 30), .ref (h 31), .int 0, .int 0, .ref (h 32), .ref (h 33), .ref (h 34), .ref (h 35), .ref (h 36), .ref (h 37)]))]) (w1 := [(mo, .inr (12, [.ref (h 0), .ref (h 1), .int 0, .int 0, .int 0, .int (-1), .int 0, .int 0, .int 0, .int 0, .long 0, .ref (h 2), .ref (h 3), .ref (h 4), .ref (h 5), .ref (h 6), .ref (h 7), .ref (h 8), .ref (h 9), .ref (h 10), .ref (h 11), .ref (h 12), .ref (h 13), .ref (h 14), .ref (h 15), .ref (h 16), .ref (h 17), .ref (h 18), .ref (h 19), .int 0, .int 0, .int 0, .int 0, .int 0, .int 0, .ref (h 20), .ref (h 21), .int 0, .ref (h 22), .ref (h 23), .ref (h 24), .ref (h 25), .ref (h 26), .int 0, .int 0, .ref (h 27), .ref (h 28), .ref (h 29), .ref (h 30), .ref (h 31), .int 0, .int 0, .ref (h 32), .ref (h 33), .ref (h 34), .ref (h 35), .ref (h 36), .ref (h 37)]))]) hP hD [0] rfl rfl rfl hk1 hP1
        clear hFc hPc hDc hP1 hD1 hz1 hk1
        refine lv_iload_n hx hb dX12_master_52 rfl (lv_at hl 2 rfl) ?_
        refine lv_if_ne (tgt := 63) hx hb dX12_master_53 (by decide) (fun c_10 => ?_) (fun c_10 => ?_)
        · skip
          refine lv_iload_n hx hb dX12_master_63 rfl (lv_at hl 2 rfl) ?_
          refine lv_aload_n hx hb dX12_master_64 rfl (lv_at hl 0 rfl) ?_
          refine va_get (ci := 12) (v := .int 0) (C := RX12) (T := TX12) (N := 58) hx hb ht iX12 hown hK hP 0 rfl rfl 43 (by decide) (ht _ k_328) (fun _ h9 => h9) rfl dX12_master_65 ?_
          refine lv_icmp_gt (tgt := 82) hx hb dX12_master_68 (by decide) (fun c_11 => ?_) (fun c_11 => ?_)
          · skip
            refine lv_iconst (v := (-1)) hx hb dX12_master_82 (by decide) ?_
            refine W.widen (k := 0) (n := 0) (Nat.le_of_ble_eq_true rfl) (Nat.le_of_ble_eq_true rfl) ?_
            exact W.iret (v := (-1)) hx hb hr (fun t ht9 hW => ⟨⟨(-1), (), rfl, ⟨(by unfold sp_master; have z0 : (0 : Int32).toInt = 0 := (by decide); have z1 : (6 : Int32).toInt = 6 := (by decide); split <;> first | rfl | (exfalso; rename_i hc9; (try simp only [ow_lt, ow_le, ow_eq, true_and, and_true] at hc9 g_5 c_10 c_11); omega)), trivial⟩, trivial⟩, hS.F ht9⟩) hS.2.2 dX12_master_83
          · exfalso
            have z0 : (0 : Int32).toInt = 0 := (by decide); have z1 : (6 : Int32).toInt = 6 := (by decide); (try simp only [ow_lt, ow_le, ow_eq, true_and, and_true] at g_5 c_10 c_11); omega
        · skip
          refine lv_aload_n hx hb dX12_master_56 rfl (lv_at hl 0 rfl) ?_
          refine va_get (ci := 12) (v := .int 0) (C := RX12) (T := TX12) (N := 58) hx hb ht iX12 hown hK hP 0 rfl rfl 44 (by decide) (ht _ k_329) (fun _ h9 => h9) rfl dX12_master_57 ?_
          refine lv_goto (tgt := 83) hx hb dX12_master_60 (by decide) ?_
          refine W.widen (k := 0) (n := 0) (Nat.le_of_ble_eq_true rfl) (Nat.le_of_ble_eq_true rfl) ?_
          exact W.iret (v := 0) hx hb hr (fun t ht9 hW => ⟨⟨0, (), rfl, ⟨(by unfold sp_master; have z0 : (0 : Int32).toInt = 0 := (by decide); have z1 : (6 : Int32).toInt = 6 := (by decide); split <;> first | rfl | (exfalso; rename_i hc9; (try simp only [ow_lt, ow_le, ow_eq, true_and, and_true] at hc9 g_5 c_10); omega)), trivial⟩, trivial⟩, hS.F ht9⟩) hS.2.2 dX12_master_83
      · skip
        have g_12 := ow_i0 e_3 c_4
        refine lv_iconst (v := (-1)) hx hb dX12_master_29 (by decide) ?_
        refine W.widen (k := 0) (n := 0) (Nat.le_of_ble_eq_true rfl) (Nat.le_of_ble_eq_true rfl) ?_
        exact W.iret (v := (-1)) hx hb hr (fun t ht9 hW => ⟨⟨(-1), (), rfl, ⟨(by unfold sp_master; have z0 : (0 : Int32).toInt = 0 := (by decide); have z1 : (6 : Int32).toInt = 6 := (by decide); split <;> first | rfl | (exfalso; rename_i hc9; (try simp only [ow_lt, ow_le, ow_eq, true_and, and_true] at hc9 g_12); omega)), trivial⟩, trivial⟩, hS.F ht9⟩) hS.2.2 dX12_master_30
  · skip
    have hl : lv_has ls 3 [(0, .ref mo), (1, .int n), (2, .int n2)] := hl
    refine lv_iload_n hx hb dX12_master_0 rfl (lv_at hl 1 rfl) ?_
    refine lv_if_lt (tgt := 29) hx hb dX12_master_1 (by decide) (fun c_13 => ?_) (fun c_13 => ?_)
    · skip
      refine lv_iconst (v := (-1)) hx hb dX12_master_29 (by decide) ?_
      refine W.widen (k := 0) (n := 0) (Nat.le_of_ble_eq_true rfl) (Nat.le_of_ble_eq_true rfl) ?_
      exact W.iret (v := (-1)) hx hb hr (fun t ht9 hW => ⟨⟨(-1), (), rfl, ⟨(by unfold sp_master; have z0 : (0 : Int32).toInt = 0 := (by decide); have z1 : (6 : Int32).toInt = 6 := (by decide); split <;> first | rfl | (exfalso; rename_i hc9; (try simp only [ow_lt, ow_le, ow_eq, true_and, and_true] at hc9 hout c_13); omega)), trivial⟩, trivial⟩, hS.F ht9⟩) hS.2.2 dX12_master_30
    · skip
      refine lv_iload_n hx hb dX12_master_4 rfl (lv_at hl 1 rfl) ?_
      refine lv_iconst (v := 1) hx hb dX12_master_5 (by decide) ?_
      refine lv_aload_n hx hb dX12_master_6 rfl (lv_at hl 0 rfl) ?_
      refine va_get (ci := 12) (v := .ref (h 2)) (C := RX12) (T := TX12) (N := 58) hx hb ht iX12 hown hK hP 0 rfl rfl 11 (by decide) (ht _ k_268) (fun _ h9 => h9) rfl dX12_master_7 ?_
      refine lv_aload_n hx hb dX12_master_10 rfl (lv_at hl 0 rfl) ?_
      refine va_get (ci := 12) (v := .int 0) (C := RX12) (T := TX12) (N := 58) hx hb ht iX12 hown hK hP 0 rfl rfl 29 (by decide) (ht _ k_315) (fun _ h9 => h9) rfl dX12_master_11 ?_
      refine va_iald hx hb hK hP 2 0 rfl rfl (in_lit (by decide +kernel)) dX12_master_14 ?_
      refine ow_top 0 rfl ?_
      refine lv_ishl hx hb dX12_master_15 ?_
      refine ow_top 1 (by decide +kernel) ?_
      refine lv_icmp_ge (tgt := 29) hx hb dX12_master_16 (by decide) (fun c_14 => ?_) (fun c_14 => ?_)
      · skip
        refine lv_iconst (v := (-1)) hx hb dX12_master_29 (by decide) ?_
        refine W.widen (k := 0) (n := 0) (Nat.le_of_ble_eq_true rfl) (Nat.le_of_ble_eq_true rfl) ?_
        exact W.iret (v := (-1)) hx hb hr (fun t ht9 hW => ⟨⟨(-1), (), rfl, ⟨(by unfold sp_master; have z0 : (0 : Int32).toInt = 0 := (by decide); have z1 : (1 : Int32).toInt = 1 := (by decide); have z2 : (6 : Int32).toInt = 6 := (by decide); split <;> first | rfl | (exfalso; rename_i hc9; (try simp only [ow_lt, ow_le, ow_eq, true_and, and_true] at hc9 hout c_13 c_14); omega)), trivial⟩, trivial⟩, hS.F ht9⟩) hS.2.2 dX12_master_30
      · exfalso
        have z0 : (0 : Int32).toInt = 0 := (by decide); have z1 : (1 : Int32).toInt = 1 := (by decide); (try simp only [ow_lt, ow_le, ow_eq, true_and, and_true] at hout c_13 c_14); omega
set_option maxHeartbeats 4000000 in
set_option maxRecDepth 100000 in
theorem m_round (l : Launch) (G : va_G) (cy : Nat → ClassId) (sz : Nat) (mo : Nat) (h : Nat → Nat) (f : Nat → Nat → Int32) (n : Int32) (n2 : Int32)  : Met l yX12_round (.code yX12_round cX12_round 3 (some .int) :: TBg) ({ frames := 3, cells := 0, slots := 0, locals := 192 }) (va_Pc [.ref mo, .int n, .int n2] (En G cy (WM cy mo h f) sz)) (va_Qi (fun (r : Int32) (_ : Unit) => r = (-1) ∧ True) (fun _ _ => True) (va_A (WM cy mo h f) sz)) 0 0 (va_A (WM cy mo h f) sz) := by
  refine Met.ofW (cc := cX12_round) (maxL := 3) (ret := (some .int)) (by decide) rfl ?_
  intro p e s m args below meth c s₁ B hml hv
  obtain ⟨rfl, hsz, hP, hK, hD0, hN⟩ := hv
  have hx := B.exec
  have hb := B.bytes
  have hr := B.returns
  have hts := atoms_spec (ws := .code yX12_round cX12_round 3 (some .int) :: TBg) B.pre
  have ht : ∀ w ∈ TBg, w.before _ s = true := fun w h => hts w (List.mem_cons_of_mem _ h)
  have hown : s.vm.findClass RX12 = some m.cls := findClass_of_methodNamed B.named
  have hlocks := B.notSynchronized
  subst hsz
  have hD := hD0.self (sz := s.heap.size)
  generalize hAe : va_A (WM cy mo h f) s.heap.size = A at hD ⊢
  have hA : ∀ q : Nat, s.heap.size ≤ q → A q := fun q h => by rw [← hAe]; exact Or.inr h
  have hS : va_S A s.heap s.heap [] := va_S.rf
  have hl := lv_entry ([.ref mo, .int n, .int n2]) (n := 3) (Nat.le_of_ble_eq_true rfl)
  rw [lg_entry_eq]
  generalize (lg_sl ([.ref mo, .int n, .int n2]) ++ List.replicate (3 - (lg_sl ([.ref mo, .int n, .int n2])).length) Slot.unset).toArray = ls at hl ⊢
  have hl : lv_has ls 3 [(0, .ref mo), (1, .int n), (2, .int n2)] := hl
  refine lv_aload_n hx hb dX12_round_0 rfl (lv_at hl 0 rfl) ?_
  refine lv_iload_n hx hb dX12_round_1 rfl (lv_at hl 1 rfl) ?_
  have hFc := fr_new hS hA
  have hPc := hP.sub (ws' := [(mo, .inr (12, [.ref (h 0), .ref (h 1), .int 0, .int 0, .int 0, .int (-1), .int 0, .int 0, .int 0, .int 0, .long 0, .ref (h 2), .ref (h 3), .ref (h 4), .ref (h 5), .ref (h 6), .ref (h 7), .ref (h 8), .ref (h 9), .ref (h 10), .ref (h 11), .ref (h 12), .ref (h 13), .ref (h 14), .ref (h 15), .ref (h 16), .ref (h 17), .ref (h 18), .ref (h 19), .int 0, .int 0, .int 0, .int 0, .int 0, .int 0, .ref (h 20), .ref (h 21), .int 0, .ref (h 22), .ref (h 23), .ref (h 24), .ref (h 25), .ref (h 26), .int 0, .int 0, .ref (h 27), .ref (h 28), .ref (h 29), .ref (h 30), .ref (h 31), .int 0, .int 0, .ref (h 32), .ref (h 33), .ref (h 34), .ref (h 35), .ref (h 36), .ref (h 37)])), ((h 2), .inl (cy 0, 2, .inl (fun _ => 0)))]) [0, 2] rfl
  have hDc := hD.sub (ws' := [(mo, .inr (12, [.ref (h 0), .ref (h 1), .int 0, .int 0, .int 0, .int (-1), .int 0, .int 0, .int 0, .int 0, .long 0, .ref (h 2), .ref (h 3), .ref (h 4), .ref (h 5), .ref (h 6), .ref (h 7), .ref (h 8), .ref (h 9), .ref (h 10), .ref (h 11), .ref (h 12), .ref (h 13), .ref (h 14), .ref (h 15), .ref (h 16), .ref (h 17), .ref (h 18), .ref (h 19), .int 0, .int 0, .int 0, .int 0, .int 0, .int 0, .ref (h 20), .ref (h 21), .int 0, .ref (h 22), .ref (h 23), .ref (h 24), .ref (h 25), .ref (h 26), .int 0, .int 0, .ref (h 27), .ref (h 28), .ref (h 29), .ref (h 30), .ref (h 31), .int 0, .int 0, .ref (h 32), .ref (h 33), .ref (h 34), .ref (h 35), .ref (h 36), .ref (h 37)])), ((h 2), .inl (cy 0, 2, .inl (fun _ => 0)))]) [0, 2] (by decide) rfl
  refine va_calli (va_runV (As := [.int n]) (rest := []) ⟨hx, hb, hml, hown, ht⟩ (m_isTune l G cy _ mo n (h 2) (.ref (h 0)) (.ref (h 1)) (.int 0) (.int 0) (.int 0) (.int (-1)) (.int 0) (.int 0) (.int 0) (.int 0) (.long 0) (.ref (h 3)) (.ref (h 4)) (.ref (h 5)) (.ref (h 6)) (.ref (h 7)) (.ref (h 8)) (.ref (h 9)) (.ref (h 10)) (.ref (h 11)) (.ref (h 12)) (.ref (h 13)) (.ref (h 14)) (.ref (h 15)) (.ref (h 16)) (.ref (h 17)) (.ref (h 18)) (.ref (h 19)) (.int 0) (.int 0) (.int 0) (.int 0) (.int 0) (.ref (h 20)) (.ref (h 21)) (.int 0) (.ref (h 22)) (.ref (h 23)) (.ref (h 24)) (.ref (h 25)) (.ref (h 26)) (.int 0) (.int 0) (.ref (h 27)) (.ref (h 28)) (.ref (h 29)) (.ref (h 30)) (.ref (h 31)) (.int 0) (.int 0) (.ref (h 32)) (.ref (h 33)) (.ref (h 34)) (.ref (h 35)) (.ref (h 36)) (.ref (h 37)) ) (cwV 1 ht (gv k_336 k_337 k_338 k_314 k_335) rfl rfl rfl (by decide +kernel) ⟨Nat.le_of_ble_eq_true rfl, Nat.le_of_ble_eq_true rfl⟩) ⟨En.blind, va_recv hK hP (ci := 12) (q0 := 0) rfl rfl, fun U hU hW => ⟨rfl, En.of hU hW hPc hK hDc hN⟩⟩ rfl rfl hl.1 rfl (lv_room (Nat.le_of_ble_eq_true rfl)) dX12_round_2 ⟨Nat.le_of_ble_eq_true rfl, Nat.le_of_ble_eq_true rfl⟩) hS (fun q _ h => hFc q h) hFc (fun r_2 u_1 t H locs ht9 hvm hw hB hz1 hk1 hS => ?_)
  have hP := fr_keep hP hk1
  obtain rfl : r_2 = 0 := hw.1
  refine lv_if_eq (tgt := 31) hx hb dX12_round_5 (by decide) (fun _ => ?_) (fun c9 => absurd (by decide) c9)
  refine lv_iconst (v := (-1)) hx hb dX12_round_31 (by decide) ?_
  refine W.widen (k := 0) (n := 0) (Nat.le_of_ble_eq_true rfl) (Nat.le_of_ble_eq_true rfl) ?_
  exact W.iret (v := (-1)) hx hb hr (fun t ht9 hW => ⟨⟨(-1), (), rfl, ⟨rfl, trivial⟩, trivial⟩, hS.F ht9⟩) hS.2.2 dX12_round_32
set_option maxHeartbeats 4000000 in
set_option maxRecDepth 100000 in
theorem m_good (l : Launch) (G : va_G) (cy : Nat → ClassId) (sz : Nat) (mo : Nat) (h : Nat → Nat) (f : Nat → Nat → Int32) (n : Int32) (n2 : Int32)  : Met l yX12_good (.code yX12_good cX12_good 5 (some .int) :: TBg) ({ frames := 3, cells := 0, slots := 0, locals := 192 }) (va_Pc [.ref mo, .int n, .int n2] (En G cy (WM cy mo h f) sz)) (va_Qi (fun (r : Int32) (_ : Unit) => r = (-1) ∧ True) (fun _ _ => True) (va_A (WM cy mo h f) sz)) 0 0 (va_A (WM cy mo h f) sz) := by
  refine Met.ofW (cc := cX12_good) (maxL := 5) (ret := (some .int)) (by decide) rfl ?_
  intro p e s m args below meth c s₁ B hml hv
  obtain ⟨rfl, hsz, hP, hK, hD0, hN⟩ := hv
  have hx := B.exec
  have hb := B.bytes
  have hr := B.returns
  have hts := atoms_spec (ws := .code yX12_good cX12_good 5 (some .int) :: TBg) B.pre
  have ht : ∀ w ∈ TBg, w.before _ s = true := fun w h => hts w (List.mem_cons_of_mem _ h)
  have hown : s.vm.findClass RX12 = some m.cls := findClass_of_methodNamed B.named
  have hlocks := B.notSynchronized
  subst hsz
  have hD := hD0.self (sz := s.heap.size)
  generalize hAe : va_A (WM cy mo h f) s.heap.size = A at hD ⊢
  have hA : ∀ q : Nat, s.heap.size ≤ q → A q := fun q h => by rw [← hAe]; exact Or.inr h
  have hS : va_S A s.heap s.heap [] := va_S.rf
  have hl := lv_entry ([.ref mo, .int n, .int n2]) (n := 5) (Nat.le_of_ble_eq_true rfl)
  rw [lg_entry_eq]
  generalize (lg_sl ([.ref mo, .int n, .int n2]) ++ List.replicate (5 - (lg_sl ([.ref mo, .int n, .int n2])).length) Slot.unset).toArray = ls at hl ⊢
  have hl : lv_has ls 5 [(0, .ref mo), (1, .int n), (2, .int n2)] := hl
  refine lv_aload_n hx hb dX12_good_0 rfl (lv_at hl 0 rfl) ?_
  refine lv_iload_n hx hb dX12_good_1 rfl (lv_at hl 1 rfl) ?_
  have hFc := fr_new hS hA
  have hPc := hP.sub (ws' := [(mo, .inr (12, [.ref (h 0), .ref (h 1), .int 0, .int 0, .int 0, .int (-1), .int 0, .int 0, .int 0, .int 0, .long 0, .ref (h 2), .ref (h 3), .ref (h 4), .ref (h 5), .ref (h 6), .ref (h 7), .ref (h 8), .ref (h 9), .ref (h 10), .ref (h 11), .ref (h 12), .ref (h 13), .ref (h 14), .ref (h 15), .ref (h 16), .ref (h 17), .ref (h 18), .ref (h 19), .int 0, .int 0, .int 0, .int 0, .int 0, .int 0, .ref (h 20), .ref (h 21), .int 0, .ref (h 22), .ref (h 23), .ref (h 24), .ref (h 25), .ref (h 26), .int 0, .int 0, .ref (h 27), .ref (h 28), .ref (h 29), .ref (h 30), .ref (h 31), .int 0, .int 0, .ref (h 32), .ref (h 33), .ref (h 34), .ref (h 35), .ref (h 36), .ref (h 37)])), ((h 2), .inl (cy 0, 2, .inl (fun _ => 0)))]) [0, 2] rfl
  have hDc := hD.sub (ws' := [(mo, .inr (12, [.ref (h 0), .ref (h 1), .int 0, .int 0, .int 0, .int (-1), .int 0, .int 0, .int 0, .int 0, .long 0, .ref (h 2), .ref (h 3), .ref (h 4), .ref (h 5), .ref (h 6), .ref (h 7), .ref (h 8), .ref (h 9), .ref (h 10), .ref (h 11), .ref (h 12), .ref (h 13), .ref (h 14), .ref (h 15), .ref (h 16), .ref (h 17), .ref (h 18), .ref (h 19), .int 0, .int 0, .int 0, .int 0, .int 0, .int 0, .ref (h 20), .ref (h 21), .int 0, .ref (h 22), .ref (h 23), .ref (h 24), .ref (h 25), .ref (h 26), .int 0, .int 0, .ref (h 27), .ref (h 28), .ref (h 29), .ref (h 30), .ref (h 31), .int 0, .int 0, .ref (h 32), .ref (h 33), .ref (h 34), .ref (h 35), .ref (h 36), .ref (h 37)])), ((h 2), .inl (cy 0, 2, .inl (fun _ => 0)))]) [0, 2] (by decide) rfl
  refine va_calli (va_runV (As := [.int n]) (rest := []) ⟨hx, hb, hml, hown, ht⟩ (m_isTune l G cy _ mo n (h 2) (.ref (h 0)) (.ref (h 1)) (.int 0) (.int 0) (.int 0) (.int (-1)) (.int 0) (.int 0) (.int 0) (.int 0) (.long 0) (.ref (h 3)) (.ref (h 4)) (.ref (h 5)) (.ref (h 6)) (.ref (h 7)) (.ref (h 8)) (.ref (h 9)) (.ref (h 10)) (.ref (h 11)) (.ref (h 12)) (.ref (h 13)) (.ref (h 14)) (.ref (h 15)) (.ref (h 16)) (.ref (h 17)) (.ref (h 18)) (.ref (h 19)) (.int 0) (.int 0) (.int 0) (.int 0) (.int 0) (.ref (h 20)) (.ref (h 21)) (.int 0) (.ref (h 22)) (.ref (h 23)) (.ref (h 24)) (.ref (h 25)) (.ref (h 26)) (.int 0) (.int 0) (.ref (h 27)) (.ref (h 28)) (.ref (h 29)) (.ref (h 30)) (.ref (h 31)) (.int 0) (.int 0) (.ref (h 32)) (.ref (h 33)) (.ref (h 34)) (.ref (h 35)) (.ref (h 36)) (.ref (h 37)) ) (cwV 1 ht (gv k_336 k_337 k_338 k_314 k_335) rfl rfl rfl (by decide +kernel) ⟨Nat.le_of_ble_eq_true rfl, Nat.le_of_ble_eq_true rfl⟩) ⟨En.blind, va_recv hK hP (ci := 12) (q0 := 0) rfl rfl, fun U hU hW => ⟨rfl, En.of hU hW hPc hK hDc hN⟩⟩ rfl rfl hl.1 rfl (lv_room (Nat.le_of_ble_eq_true rfl)) dX12_good_2 ⟨Nat.le_of_ble_eq_true rfl, Nat.le_of_ble_eq_true rfl⟩) hS (fun q _ h => hFc q h) hFc (fun r_2 u_1 t H locs ht9 hvm hw hB hz1 hk1 hS => ?_)
  have hP := fr_keep hP hk1
  obtain rfl : r_2 = 0 := hw.1
  refine lv_if_eq (tgt := 17) hx hb dX12_good_5 (by decide) (fun _ => ?_) (fun c9 => absurd (by decide) c9)
  refine lv_iconst (v := (-1)) hx hb dX12_good_17 (by decide) ?_
  refine W.widen (k := 0) (n := 0) (Nat.le_of_ble_eq_true rfl) (Nat.le_of_ble_eq_true rfl) ?_
  exact W.iret (v := (-1)) hx hb hr (fun t ht9 hW => ⟨⟨(-1), (), rfl, ⟨rfl, trivial⟩, trivial⟩, hS.F ht9⟩) hS.2.2 dX12_good_18
set_option maxHeartbeats 4000000 in
set_option maxRecDepth 100000 in
theorem m_deaf (l : Launch) (G : va_G) (cy : Nat → ClassId) (sz : Nat) (mo : Nat) (h : Nat → Nat) (f : Nat → Nat → Int32) (n : Int32) (n2 : Int32) (n3 : Int32)  : Met l yX12_deaf (.code yX12_deaf cX12_deaf 7 (some .int) :: TBg) ({ frames := 3, cells := 0, slots := 0, locals := 192 }) (va_Pc [.ref mo, .int n, .int n2, .int n3] (En G cy (WM cy mo h f) sz)) (va_Qi (fun (r : Int32) (_ : Unit) => r = (-1) ∧ True) (fun _ _ => True) (va_A (WM cy mo h f) sz)) 0 0 (va_A (WM cy mo h f) sz) := by
  refine Met.ofW (cc := cX12_deaf) (maxL := 7) (ret := (some .int)) (by decide) rfl ?_
  intro p e s m args below meth c s₁ B hml hv
  obtain ⟨rfl, hsz, hP, hK, hD0, hN⟩ := hv
  have hx := B.exec
  have hb := B.bytes
  have hr := B.returns
  have hts := atoms_spec (ws := .code yX12_deaf cX12_deaf 7 (some .int) :: TBg) B.pre
  have ht : ∀ w ∈ TBg, w.before _ s = true := fun w h => hts w (List.mem_cons_of_mem _ h)
  have hown : s.vm.findClass RX12 = some m.cls := findClass_of_methodNamed B.named
  have hlocks := B.notSynchronized
  subst hsz
  have hD := hD0.self (sz := s.heap.size)
  generalize hAe : va_A (WM cy mo h f) s.heap.size = A at hD ⊢
  have hA : ∀ q : Nat, s.heap.size ≤ q → A q := fun q h => by rw [← hAe]; exact Or.inr h
  have hS : va_S A s.heap s.heap [] := va_S.rf
  have hl := lv_entry ([.ref mo, .int n, .int n2, .int n3]) (n := 7) (Nat.le_of_ble_eq_true rfl)
  rw [lg_entry_eq]
  generalize (lg_sl ([.ref mo, .int n, .int n2, .int n3]) ++ List.replicate (7 - (lg_sl ([.ref mo, .int n, .int n2, .int n3])).length) Slot.unset).toArray = ls at hl ⊢
  have hl : lv_has ls 7 [(0, .ref mo), (1, .int n), (2, .int n2), (3, .int n3)] := hl
  refine lv_aload_n hx hb dX12_deaf_0 rfl (lv_at hl 0 rfl) ?_
  refine lv_iload_n hx hb dX12_deaf_1 rfl (lv_at hl 1 rfl) ?_
  have hFc := fr_new hS hA
  have hPc := hP.sub (ws' := [(mo, .inr (12, [.ref (h 0), .ref (h 1), .int 0, .int 0, .int 0, .int (-1), .int 0, .int 0, .int 0, .int 0, .long 0, .ref (h 2), .ref (h 3), .ref (h 4), .ref (h 5), .ref (h 6), .ref (h 7), .ref (h 8), .ref (h 9), .ref (h 10), .ref (h 11), .ref (h 12), .ref (h 13), .ref (h 14), .ref (h 15), .ref (h 16), .ref (h 17), .ref (h 18), .ref (h 19), .int 0, .int 0, .int 0, .int 0, .int 0, .int 0, .ref (h 20), .ref (h 21), .int 0, .ref (h 22), .ref (h 23), .ref (h 24), .ref (h 25), .ref (h 26), .int 0, .int 0, .ref (h 27), .ref (h 28), .ref (h 29), .ref (h 30), .ref (h 31), .int 0, .int 0, .ref (h 32), .ref (h 33), .ref (h 34), .ref (h 35), .ref (h 36), .ref (h 37)])), ((h 2), .inl (cy 0, 2, .inl (fun _ => 0)))]) [0, 2] rfl
  have hDc := hD.sub (ws' := [(mo, .inr (12, [.ref (h 0), .ref (h 1), .int 0, .int 0, .int 0, .int (-1), .int 0, .int 0, .int 0, .int 0, .long 0, .ref (h 2), .ref (h 3), .ref (h 4), .ref (h 5), .ref (h 6), .ref (h 7), .ref (h 8), .ref (h 9), .ref (h 10), .ref (h 11), .ref (h 12), .ref (h 13), .ref (h 14), .ref (h 15), .ref (h 16), .ref (h 17), .ref (h 18), .ref (h 19), .int 0, .int 0, .int 0, .int 0, .int 0, .int 0, .ref (h 20), .ref (h 21), .int 0, .ref (h 22), .ref (h 23), .ref (h 24), .ref (h 25), .ref (h 26), .int 0, .int 0, .ref (h 27), .ref (h 28), .ref (h 29), .ref (h 30), .ref (h 31), .int 0, .int 0, .ref (h 32), .ref (h 33), .ref (h 34), .ref (h 35), .ref (h 36), .ref (h 37)])), ((h 2), .inl (cy 0, 2, .inl (fun _ => 0)))]) [0, 2] (by decide) rfl
  refine va_calli (va_runV (As := [.int n]) (rest := []) ⟨hx, hb, hml, hown, ht⟩ (m_isTune l G cy _ mo n (h 2) (.ref (h 0)) (.ref (h 1)) (.int 0) (.int 0) (.int 0) (.int (-1)) (.int 0) (.int 0) (.int 0) (.int 0) (.long 0) (.ref (h 3)) (.ref (h 4)) (.ref (h 5)) (.ref (h 6)) (.ref (h 7)) (.ref (h 8)) (.ref (h 9)) (.ref (h 10)) (.ref (h 11)) (.ref (h 12)) (.ref (h 13)) (.ref (h 14)) (.ref (h 15)) (.ref (h 16)) (.ref (h 17)) (.ref (h 18)) (.ref (h 19)) (.int 0) (.int 0) (.int 0) (.int 0) (.int 0) (.ref (h 20)) (.ref (h 21)) (.int 0) (.ref (h 22)) (.ref (h 23)) (.ref (h 24)) (.ref (h 25)) (.ref (h 26)) (.int 0) (.int 0) (.ref (h 27)) (.ref (h 28)) (.ref (h 29)) (.ref (h 30)) (.ref (h 31)) (.int 0) (.int 0) (.ref (h 32)) (.ref (h 33)) (.ref (h 34)) (.ref (h 35)) (.ref (h 36)) (.ref (h 37)) ) (cwV 1 ht (gv k_336 k_337 k_338 k_314 k_335) rfl rfl rfl (by decide +kernel) ⟨Nat.le_of_ble_eq_true rfl, Nat.le_of_ble_eq_true rfl⟩) ⟨En.blind, va_recv hK hP (ci := 12) (q0 := 0) rfl rfl, fun U hU hW => ⟨rfl, En.of hU hW hPc hK hDc hN⟩⟩ rfl rfl hl.1 rfl (lv_room (Nat.le_of_ble_eq_true rfl)) dX12_deaf_2 ⟨Nat.le_of_ble_eq_true rfl, Nat.le_of_ble_eq_true rfl⟩) hS (fun q _ h => hFc q h) hFc (fun r_2 u_1 t H locs ht9 hvm hw hB hz1 hk1 hS => ?_)
  have hP := fr_keep hP hk1
  obtain rfl : r_2 = 0 := hw.1
  refine lv_if_eq (tgt := 26) hx hb dX12_deaf_5 (by decide) (fun _ => ?_) (fun c9 => absurd (by decide) c9)
  refine lv_iconst (v := (-1)) hx hb dX12_deaf_26 (by decide) ?_
  refine W.widen (k := 0) (n := 0) (Nat.le_of_ble_eq_true rfl) (Nat.le_of_ble_eq_true rfl) ?_
  exact W.iret (v := (-1)) hx hb hr (fun t ht9 hW => ⟨⟨(-1), (), rfl, ⟨rfl, trivial⟩, trivial⟩, hS.F ht9⟩) hS.2.2 dX12_deaf_27
set_option maxHeartbeats 4000000 in
set_option maxRecDepth 100000 in
theorem m_least (l : Launch) (G : va_G) (cy : Nat → ClassId) (sz : Nat) (mo : Nat) (h : Nat → Nat) (f : Nat → Nat → Int32) (n : Int32) (n2 : Int32)  : Met l yX12_least (.code yX12_least cX12_least 5 (some .int) :: TBg) ({ frames := 3, cells := 0, slots := 0, locals := 192 }) (va_Pc [.ref mo, .int n, .int n2] (En G cy (WM cy mo h f) sz)) (va_Qi (fun (r : Int32) (_ : Unit) => r = (-1) ∧ True) (fun _ _ => True) (va_A (WM cy mo h f) sz)) 0 0 (va_A (WM cy mo h f) sz) := by
  refine Met.ofW (cc := cX12_least) (maxL := 5) (ret := (some .int)) (by decide) rfl ?_
  intro p e s m args below meth c s₁ B hml hv
  obtain ⟨rfl, hsz, hP, hK, hD0, hN⟩ := hv
  have hx := B.exec
  have hb := B.bytes
  have hr := B.returns
  have hts := atoms_spec (ws := .code yX12_least cX12_least 5 (some .int) :: TBg) B.pre
  have ht : ∀ w ∈ TBg, w.before _ s = true := fun w h => hts w (List.mem_cons_of_mem _ h)
  have hown : s.vm.findClass RX12 = some m.cls := findClass_of_methodNamed B.named
  have hlocks := B.notSynchronized
  subst hsz
  have hD := hD0.self (sz := s.heap.size)
  generalize hAe : va_A (WM cy mo h f) s.heap.size = A at hD ⊢
  have hA : ∀ q : Nat, s.heap.size ≤ q → A q := fun q h => by rw [← hAe]; exact Or.inr h
  have hS : va_S A s.heap s.heap [] := va_S.rf
  have hl := lv_entry ([.ref mo, .int n, .int n2]) (n := 5) (Nat.le_of_ble_eq_true rfl)
  rw [lg_entry_eq]
  generalize (lg_sl ([.ref mo, .int n, .int n2]) ++ List.replicate (5 - (lg_sl ([.ref mo, .int n, .int n2])).length) Slot.unset).toArray = ls at hl ⊢
  have hl : lv_has ls 5 [(0, .ref mo), (1, .int n), (2, .int n2)] := hl
  refine lv_aload_n hx hb dX12_least_0 rfl (lv_at hl 0 rfl) ?_
  refine lv_iload_n hx hb dX12_least_1 rfl (lv_at hl 1 rfl) ?_
  have hFc := fr_new hS hA
  have hPc := hP.sub (ws' := [(mo, .inr (12, [.ref (h 0), .ref (h 1), .int 0, .int 0, .int 0, .int (-1), .int 0, .int 0, .int 0, .int 0, .long 0, .ref (h 2), .ref (h 3), .ref (h 4), .ref (h 5), .ref (h 6), .ref (h 7), .ref (h 8), .ref (h 9), .ref (h 10), .ref (h 11), .ref (h 12), .ref (h 13), .ref (h 14), .ref (h 15), .ref (h 16), .ref (h 17), .ref (h 18), .ref (h 19), .int 0, .int 0, .int 0, .int 0, .int 0, .int 0, .ref (h 20), .ref (h 21), .int 0, .ref (h 22), .ref (h 23), .ref (h 24), .ref (h 25), .ref (h 26), .int 0, .int 0, .ref (h 27), .ref (h 28), .ref (h 29), .ref (h 30), .ref (h 31), .int 0, .int 0, .ref (h 32), .ref (h 33), .ref (h 34), .ref (h 35), .ref (h 36), .ref (h 37)])), ((h 3), .inl (cy 0, 2, .inl (fun _ => 0)))]) [0, 3] rfl
  have hDc := hD.sub (ws' := [(mo, .inr (12, [.ref (h 0), .ref (h 1), .int 0, .int 0, .int 0, .int (-1), .int 0, .int 0, .int 0, .int 0, .long 0, .ref (h 2), .ref (h 3), .ref (h 4), .ref (h 5), .ref (h 6), .ref (h 7), .ref (h 8), .ref (h 9), .ref (h 10), .ref (h 11), .ref (h 12), .ref (h 13), .ref (h 14), .ref (h 15), .ref (h 16), .ref (h 17), .ref (h 18), .ref (h 19), .int 0, .int 0, .int 0, .int 0, .int 0, .int 0, .ref (h 20), .ref (h 21), .int 0, .ref (h 22), .ref (h 23), .ref (h 24), .ref (h 25), .ref (h 26), .int 0, .int 0, .ref (h 27), .ref (h 28), .ref (h 29), .ref (h 30), .ref (h 31), .int 0, .int 0, .ref (h 32), .ref (h 33), .ref (h 34), .ref (h 35), .ref (h 36), .ref (h 37)])), ((h 3), .inl (cy 0, 2, .inl (fun _ => 0)))]) [0, 3] (by decide) rfl
  refine va_calli (va_runV (As := [.int n]) (rest := []) ⟨hx, hb, hml, hown, ht⟩ (m_isLock l G cy _ mo n (h 3) (.ref (h 0)) (.ref (h 1)) (.int 0) (.int 0) (.int 0) (.int (-1)) (.int 0) (.int 0) (.int 0) (.int 0) (.long 0) (.ref (h 2)) (.ref (h 4)) (.ref (h 5)) (.ref (h 6)) (.ref (h 7)) (.ref (h 8)) (.ref (h 9)) (.ref (h 10)) (.ref (h 11)) (.ref (h 12)) (.ref (h 13)) (.ref (h 14)) (.ref (h 15)) (.ref (h 16)) (.ref (h 17)) (.ref (h 18)) (.ref (h 19)) (.int 0) (.int 0) (.int 0) (.int 0) (.int 0) (.ref (h 20)) (.ref (h 21)) (.int 0) (.ref (h 22)) (.ref (h 23)) (.ref (h 24)) (.ref (h 25)) (.ref (h 26)) (.int 0) (.int 0) (.ref (h 27)) (.ref (h 28)) (.ref (h 29)) (.ref (h 30)) (.ref (h 31)) (.int 0) (.int 0) (.ref (h 32)) (.ref (h 33)) (.ref (h 34)) (.ref (h 35)) (.ref (h 36)) (.ref (h 37)) ) (cwV 1 ht (gv k_341 k_342 k_343 k_314 k_340) rfl rfl rfl (by decide +kernel) ⟨Nat.le_of_ble_eq_true rfl, Nat.le_of_ble_eq_true rfl⟩) ⟨En.blind, va_recv hK hP (ci := 12) (q0 := 0) rfl rfl, fun U hU hW => ⟨rfl, En.of hU hW hPc hK hDc hN⟩⟩ rfl rfl hl.1 rfl (lv_room (Nat.le_of_ble_eq_true rfl)) dX12_least_2 ⟨Nat.le_of_ble_eq_true rfl, Nat.le_of_ble_eq_true rfl⟩) hS (fun q _ h => hFc q h) hFc (fun r_2 u_1 t H locs ht9 hvm hw hB hz1 hk1 hS => ?_)
  have hP := fr_keep hP hk1
  obtain rfl : r_2 = 0 := hw.1
  refine lv_if_ne (tgt := 10) hx hb dX12_least_5 (by decide) (fun c9 => absurd (by decide) c9) (fun _ => ?_)
  refine lv_iconst (v := (-1)) hx hb dX12_least_8 (by decide) ?_
  refine W.widen (k := 0) (n := 0) (Nat.le_of_ble_eq_true rfl) (Nat.le_of_ble_eq_true rfl) ?_
  exact W.iret (v := (-1)) hx hb hr (fun t ht9 hW => ⟨⟨(-1), (), rfl, ⟨rfl, trivial⟩, trivial⟩, hS.F ht9⟩) hS.2.2 dX12_least_9
set_option maxHeartbeats 4000000 in
set_option maxRecDepth 100000 in
theorem m_sing (l : Launch) (G : va_G) (cy : Nat → ClassId) (sz : Nat) (mo : Nat) (h : Nat → Nat) (f : Nat → Nat → Int32) (n : Int32) (n2 : Int32)  : Met l yX12_sing (.code yX12_sing cX12_sing 5 (some .int) :: TBg) ({ frames := 2, cells := 0, slots := 0, locals := 128 }) (va_Pc [.ref mo, .int n, .int n2] (En G cy (WM cy mo h f) sz)) (va_Qi (fun (r : Int32) (_ : Unit) => r = (sp_sing n n2) ∧ True) (fun _ _ => True) (va_A (WM cy mo h f) sz)) 0 0 (va_A (WM cy mo h f) sz) := by
  refine Met.ofW (cc := cX12_sing) (maxL := 5) (ret := (some .int)) (by decide) rfl ?_
  intro p e s m args below meth c s₁ B hml hv
  obtain ⟨rfl, hsz, hP, hK, hD0, hN⟩ := hv
  have hx := B.exec
  have hb := B.bytes
  have hr := B.returns
  have hts := atoms_spec (ws := .code yX12_sing cX12_sing 5 (some .int) :: TBg) B.pre
  have ht : ∀ w ∈ TBg, w.before _ s = true := fun w h => hts w (List.mem_cons_of_mem _ h)
  have hown : s.vm.findClass RX12 = some m.cls := findClass_of_methodNamed B.named
  have hlocks := B.notSynchronized
  subst hsz
  have hD := hD0.self (sz := s.heap.size)
  generalize hAe : va_A (WM cy mo h f) s.heap.size = A at hD ⊢
  have hA : ∀ q : Nat, s.heap.size ≤ q → A q := fun q h => by rw [← hAe]; exact Or.inr h
  have hS : va_S A s.heap s.heap [] := va_S.rf
  have hl := lv_entry ([.ref mo, .int n, .int n2]) (n := 5) (Nat.le_of_ble_eq_true rfl)
  rw [lg_entry_eq]
  generalize (lg_sl ([.ref mo, .int n, .int n2]) ++ List.replicate (5 - (lg_sl ([.ref mo, .int n, .int n2])).length) Slot.unset).toArray = ls at hl ⊢
  have hl : lv_has ls 5 [(0, .ref mo), (1, .int n), (2, .int n2)] := hl
  refine lv_iload_n hx hb dX12_sing_0 rfl (lv_at hl 1 rfl) ?_
  refine lv_iconst (v := 0) hx hb dX12_sing_1 (by decide) ?_
  refine lv_bipush (v := 60) hx hb dX12_sing_2 (by decide) ?_
  have hFc := fr_new hS hA
  have hPc := hP.sub (ws' := []) [] rfl
  have hDc := hD.sub (ws' := []) [] (by decide) rfl
  refine va_calli (va_runS (As := [.int n, .int 0, .int 60]) (rest := []) ⟨hx, hb, hml, hown, ht⟩ (m_isIn l G cy _ n 0 60 ) (va_cwS 3 ht (gs k_317 k_318 k_314 k_316) rfl rfl rfl (by decide +kernel) ⟨Nat.le_of_ble_eq_true rfl, Nat.le_of_ble_eq_true rfl⟩) ⟨En.blind, fun U hU hW => ⟨rfl, En.of hU hW hPc hK hDc hN⟩⟩ rfl rfl hl.1 rfl (lv_room (Nat.le_of_ble_eq_true rfl)) dX12_sing_4 ⟨Nat.le_of_ble_eq_true rfl, Nat.le_of_ble_eq_true rfl⟩) hS (fun q _ h => hFc q h) hFc (fun r_2 u_1 t H locs ht9 hvm hw hB hz1 hk1 hS => ?_)
  have hP := fr_keep hP hk1
  have e_3 := hw.1
  refine lv_if_eq (tgt := 29) hx hb dX12_sing_7 (by decide) (fun c_4 => ?_) (fun c_4 => ?_)
  · skip
    have g_5 := ow_i0 e_3 c_4
    refine lv_iconst (v := (-1)) hx hb dX12_sing_29 (by decide) ?_
    refine W.widen (k := 0) (n := 0) (Nat.le_of_ble_eq_true rfl) (Nat.le_of_ble_eq_true rfl) ?_
    exact W.iret (v := (-1)) hx hb hr (fun t ht9 hW => ⟨⟨(-1), (), rfl, ⟨(by unfold sp_sing; have z0 : (0 : Int32).toInt = 0 := (by decide); have z1 : (1 : Int32).toInt = 1 := (by decide); have z2 : (9 : Int32).toInt = 9 := (by decide); have z3 : (60 : Int32).toInt = 60 := (by decide); split <;> first | rfl | (exfalso; rename_i hc9; (try simp only [ow_lt, ow_le, ow_eq, true_and, and_true] at hc9 g_5); omega)), trivial⟩, trivial⟩, hS.F ht9⟩) hS.2.2 dX12_sing_30
  · skip
    have g_6 := ow_i1 e_3 c_4
    refine lv_iload_n hx hb dX12_sing_10 rfl (lv_at hl 2 rfl) ?_
    refine lv_iconst (v := 1) hx hb dX12_sing_11 (by decide) ?_
    refine lv_bipush (v := 9) hx hb dX12_sing_12 (by decide) ?_
    have hFc := fr_new hS hA
    have hPc := hP.sub (ws' := []) [] rfl
    have hDc := hD.sub (ws' := []) [] (by decide) rfl
    refine va_calli (va_runS (As := [.int n2, .int 1, .int 9]) (rest := []) ⟨hx, hb, hml, hown, ht⟩ (m_isIn l G cy _ n2 1 9 ) (va_cwS 3 ht (gs k_317 k_318 k_314 k_316) rfl rfl rfl (by decide +kernel) ⟨Nat.le_of_ble_eq_true rfl, Nat.le_of_ble_eq_true rfl⟩) ⟨En.blind, fun U hU hW => ⟨rfl, En.of hU hW hPc hK hDc hN⟩⟩ rfl rfl hl.1 rfl (lv_room (Nat.le_of_ble_eq_true rfl)) dX12_sing_14 ⟨Nat.le_of_ble_eq_true rfl, Nat.le_of_ble_eq_true rfl⟩) hS (fun q _ h => hFc q h) hFc (fun r_8 u_7 t H locs ht9 hvm hw hB hz1 hk1 hS => ?_)
    have hP := fr_keep hP hk1
    have e_9 := hw.1
    refine lv_if_eq (tgt := 29) hx hb dX12_sing_17 (by decide) (fun c_10 => ?_) (fun c_10 => ?_)
    · skip
      have g_11 := ow_i0 e_9 c_10
      refine lv_iconst (v := (-1)) hx hb dX12_sing_29 (by decide) ?_
      refine W.widen (k := 0) (n := 0) (Nat.le_of_ble_eq_true rfl) (Nat.le_of_ble_eq_true rfl) ?_
      exact W.iret (v := (-1)) hx hb hr (fun t ht9 hW => ⟨⟨(-1), (), rfl, ⟨(by unfold sp_sing; have z0 : (0 : Int32).toInt = 0 := (by decide); have z1 : (1 : Int32).toInt = 1 := (by decide); have z2 : (9 : Int32).toInt = 9 := (by decide); have z3 : (60 : Int32).toInt = 60 := (by decide); split <;> first | rfl | (exfalso; rename_i hc9; (try simp only [ow_lt, ow_le, ow_eq, true_and, and_true] at hc9 g_6 g_11); omega)), trivial⟩, trivial⟩, hS.F ht9⟩) hS.2.2 dX12_sing_30
    · skip
      have g_12 := ow_i1 e_9 c_10
      refine lv_aload_n hx hb dX12_sing_20 rfl (lv_at hl 0 rfl) ?_
      refine va_get (ci := 12) (v := .int 0) (C := RX12) (T := TX12) (N := 58) hx hb ht iX12 hown hK hP 0 rfl rfl 34 (by decide) (ht _ k_355) (fun _ h9 => h9) rfl dX12_sing_21 ?_
      refine lv_bipush (v := 40) hx hb dX12_sing_24 (by decide) ?_
      refine lv_icmp_ne (tgt := 31) hx hb dX12_sing_26 (by decide) (fun _ => ?_) (fun c9 => absurd c9 (by decide))
      refine lv_aload_n hx hb dX12_sing_31 rfl (lv_at hl 0 rfl) ?_
      refine va_get (ci := 12) (v := .ref (h 7)) (C := RX12) (T := TX12) (N := 58) hx hb ht iX12 hown hK hP 0 rfl rfl 16 (by decide) (ht _ k_280) (fun _ h9 => h9) rfl dX12_sing_32 ?_
      refine lv_sipush (v := 1120) hx hb dX12_sing_35 (by decide) ?_
      refine lv_aload_n hx hb dX12_sing_38 rfl (lv_at hl 0 rfl) ?_
      refine va_get (ci := 12) (v := .int 0) (C := RX12) (T := TX12) (N := 58) hx hb ht iX12 hown hK hP 0 rfl rfl 34 (by decide) (ht _ k_355) (fun _ h9 => h9) rfl dX12_sing_39 ?_
      refine lv_iadd hx hb dX12_sing_42 ?_
      refine ow_top 1120 (by decide +kernel) ?_
      refine lv_iload_n hx hb dX12_sing_43 rfl (lv_at hl 1 rfl) ?_
      refine ow_iast hx hb hK hP hD hS 7 rfl (in_lit (by decide +kernel)) dX12_sing_44 (fun f_13 H locs hP hD hS => ?_)
      refine lv_aload_n hx hb dX12_sing_45 rfl (lv_at hl 0 rfl) ?_
      refine va_get (ci := 12) (v := .ref (h 8)) (C := RX12) (T := TX12) (N := 58) hx hb ht iX12 hown hK hP 0 rfl rfl 17 (by decide) (ht _ k_281) (fun _ h9 => h9) rfl dX12_sing_46 ?_
      refine lv_sipush (v := 1120) hx hb dX12_sing_49 (by decide) ?_
      refine lv_aload_n hx hb dX12_sing_52 rfl (lv_at hl 0 rfl) ?_
      refine va_get (ci := 12) (v := .int 0) (C := RX12) (T := TX12) (N := 58) hx hb ht iX12 hown hK hP 0 rfl rfl 34 (by decide) (ht _ k_355) (fun _ h9 => h9) rfl dX12_sing_53 ?_
      refine lv_iadd hx hb dX12_sing_56 ?_
      refine ow_top 1120 (by decide +kernel) ?_
      refine lv_iload_n hx hb dX12_sing_57 rfl (lv_at hl 2 rfl) ?_
      refine ow_iast hx hb hK hP hD hS 8 rfl (in_lit (by decide +kernel)) dX12_sing_58 (fun f_14 H locs hP hD hS => ?_)
      refine lv_aload_n hx hb dX12_sing_59 rfl (lv_at hl 0 rfl) ?_
      refine lv_dup hx hb dX12_sing_60 rfl ?_
      refine va_get (ci := 12) (v := .int 0) (C := RX12) (T := TX12) (N := 58) hx hb ht iX12 hown hK hP 0 rfl rfl 34 (by decide) (ht _ k_355) (fun _ h9 => h9) rfl dX12_sing_61 ?_
      refine lv_iconst (v := 1) hx hb dX12_sing_64 (by decide) ?_
      refine lv_iadd hx hb dX12_sing_65 ?_
      refine ow_top 1 (by decide +kernel) ?_
      refine va_put (ci := 12) (v := .int 1) (ty := .int) (C := RX12) (T := TX12) (N := 58) hx hb ht iX12 tyX12 tyX12_ok nmX12 hown hK hP hD hS 0 rfl rfl 34 (by decide) (ht _ k_355) (fun _ h9 => h9) rfl (by decide +kernel) rfl rfl (Nat.le_of_ble_eq_true rfl) dX12_sing_66 (fun H locs hP hD hS => ?_)
      refine lv_iconst (v := 0) hx hb dX12_sing_69 (by decide) ?_
      refine lv_istore_n (lv' := [(3, .int 0), (0, .ref mo), (1, .int n), (2, .int n2)]) hx hb dX12_sing_70 rfl hl (by decide) rfl (fun ls hl => ?_)
      refine lv_iconst (v := 0) hx hb dX12_sing_71 (by decide) ?_
      refine lv_istore (lv' := [(4, .int 0), (3, .int 0), (0, .ref mo), (1, .int n), (2, .int n2)]) hx hb dX12_sing_72 hl (by decide) rfl (fun ls hl => ?_)
      refine lv_iload hx hb dX12_sing_74 (lv_at hl 0 rfl) ?_
      refine lv_aload_n hx hb dX12_sing_76 rfl (lv_at hl 2 rfl) ?_
      refine va_get (ci := 12) (v := .ref (h 3)) (C := RX12) (T := TX12) (N := 58) hx hb ht iX12 hown hK hP 0 rfl rfl 12 (by decide) (ht _ k_270) (fun _ h9 => h9) rfl dX12_sing_77 ?_
      refine lv_aload_n hx hb dX12_sing_80 rfl (lv_at hl 2 rfl) ?_
      refine va_get (ci := 12) (v := .int 0) (C := RX12) (T := TX12) (N := 58) hx hb ht iX12 hown hK hP 0 rfl rfl 29 (by decide) (ht _ k_315) (fun _ h9 => h9) rfl dX12_sing_81 ?_
      refine va_iald hx hb hK hP 3 0 rfl rfl (in_lit (by decide +kernel)) dX12_sing_84 ?_
      refine ow_top 0 rfl ?_
      refine lv_icmp_ge (tgt := 155) hx hb dX12_sing_85 (by decide) (fun _ => ?_) (fun c9 => absurd (by decide) c9)
      refine lv_iload_n hx hb dX12_sing_155 rfl (lv_at hl 1 rfl) ?_
      refine W.widen (k := 0) (n := 0) (Nat.le_of_ble_eq_true rfl) (Nat.le_of_ble_eq_true rfl) ?_
      exact W.iret (v := 0) hx hb hr (fun t ht9 hW => ⟨⟨0, (), rfl, ⟨(by unfold sp_sing; have z0 : (0 : Int32).toInt = 0 := (by decide); have z1 : (1 : Int32).toInt = 1 := (by decide); have z2 : (9 : Int32).toInt = 9 := (by decide); have z3 : (60 : Int32).toInt = 60 := (by decide); split <;> first | rfl | (exfalso; rename_i hc9; (try simp only [ow_lt, ow_le, ow_eq, true_and, and_true] at hc9 g_6 g_12); omega)), trivial⟩, trivial⟩, hS.F ht9⟩) hS.2.2 dX12_sing_156
set_option maxHeartbeats 4000000 in
set_option maxRecDepth 100000 in
theorem m_song (l : Launch) (G : va_G) (cy : Nat → ClassId) (sz : Nat) (mo : Nat) (h : Nat → Nat) (f : Nat → Nat → Int32) (n : Int32) (n2 : Int32)  : Met l yX12_song (.code yX12_song cX12_song 6 (some .int) :: TBg) ({ frames := 3, cells := 0, slots := 0, locals := 192 }) (va_Pc [.ref mo, .int n, .int n2] (En G cy (WM cy mo h f) sz)) (va_Qi (fun (r : Int32) (_ : Unit) => r = (-1) ∧ True) (fun _ _ => True) (va_A (WM cy mo h f) sz)) 0 0 (va_A (WM cy mo h f) sz) := by
  refine Met.ofW (cc := cX12_song) (maxL := 6) (ret := (some .int)) (by decide) rfl ?_
  intro p e s m args below meth c s₁ B hml hv
  obtain ⟨rfl, hsz, hP, hK, hD0, hN⟩ := hv
  have hx := B.exec
  have hb := B.bytes
  have hr := B.returns
  have hts := atoms_spec (ws := .code yX12_song cX12_song 6 (some .int) :: TBg) B.pre
  have ht : ∀ w ∈ TBg, w.before _ s = true := fun w h => hts w (List.mem_cons_of_mem _ h)
  have hown : s.vm.findClass RX12 = some m.cls := findClass_of_methodNamed B.named
  have hlocks := B.notSynchronized
  subst hsz
  have hD := hD0.self (sz := s.heap.size)
  generalize hAe : va_A (WM cy mo h f) s.heap.size = A at hD ⊢
  have hA : ∀ q : Nat, s.heap.size ≤ q → A q := fun q h => by rw [← hAe]; exact Or.inr h
  have hS : va_S A s.heap s.heap [] := va_S.rf
  have hl := lv_entry ([.ref mo, .int n, .int n2]) (n := 6) (Nat.le_of_ble_eq_true rfl)
  rw [lg_entry_eq]
  generalize (lg_sl ([.ref mo, .int n, .int n2]) ++ List.replicate (6 - (lg_sl ([.ref mo, .int n, .int n2])).length) Slot.unset).toArray = ls at hl ⊢
  have hl : lv_has ls 6 [(0, .ref mo), (1, .int n), (2, .int n2)] := hl
  refine lv_aload_n hx hb dX12_song_0 rfl (lv_at hl 0 rfl) ?_
  refine lv_iload_n hx hb dX12_song_1 rfl (lv_at hl 1 rfl) ?_
  have hFc := fr_new hS hA
  have hPc := hP.sub (ws' := [(mo, .inr (12, [.ref (h 0), .ref (h 1), .int 0, .int 0, .int 0, .int (-1), .int 0, .int 0, .int 0, .int 0, .long 0, .ref (h 2), .ref (h 3), .ref (h 4), .ref (h 5), .ref (h 6), .ref (h 7), .ref (h 8), .ref (h 9), .ref (h 10), .ref (h 11), .ref (h 12), .ref (h 13), .ref (h 14), .ref (h 15), .ref (h 16), .ref (h 17), .ref (h 18), .ref (h 19), .int 0, .int 0, .int 0, .int 0, .int 0, .int 0, .ref (h 20), .ref (h 21), .int 0, .ref (h 22), .ref (h 23), .ref (h 24), .ref (h 25), .ref (h 26), .int 0, .int 0, .ref (h 27), .ref (h 28), .ref (h 29), .ref (h 30), .ref (h 31), .int 0, .int 0, .ref (h 32), .ref (h 33), .ref (h 34), .ref (h 35), .ref (h 36), .ref (h 37)])), ((h 2), .inl (cy 0, 2, .inl (fun _ => 0)))]) [0, 2] rfl
  have hDc := hD.sub (ws' := [(mo, .inr (12, [.ref (h 0), .ref (h 1), .int 0, .int 0, .int 0, .int (-1), .int 0, .int 0, .int 0, .int 0, .long 0, .ref (h 2), .ref (h 3), .ref (h 4), .ref (h 5), .ref (h 6), .ref (h 7), .ref (h 8), .ref (h 9), .ref (h 10), .ref (h 11), .ref (h 12), .ref (h 13), .ref (h 14), .ref (h 15), .ref (h 16), .ref (h 17), .ref (h 18), .ref (h 19), .int 0, .int 0, .int 0, .int 0, .int 0, .int 0, .ref (h 20), .ref (h 21), .int 0, .ref (h 22), .ref (h 23), .ref (h 24), .ref (h 25), .ref (h 26), .int 0, .int 0, .ref (h 27), .ref (h 28), .ref (h 29), .ref (h 30), .ref (h 31), .int 0, .int 0, .ref (h 32), .ref (h 33), .ref (h 34), .ref (h 35), .ref (h 36), .ref (h 37)])), ((h 2), .inl (cy 0, 2, .inl (fun _ => 0)))]) [0, 2] (by decide) rfl
  refine va_calli (va_runV (As := [.int n]) (rest := []) ⟨hx, hb, hml, hown, ht⟩ (m_isTune l G cy _ mo n (h 2) (.ref (h 0)) (.ref (h 1)) (.int 0) (.int 0) (.int 0) (.int (-1)) (.int 0) (.int 0) (.int 0) (.int 0) (.long 0) (.ref (h 3)) (.ref (h 4)) (.ref (h 5)) (.ref (h 6)) (.ref (h 7)) (.ref (h 8)) (.ref (h 9)) (.ref (h 10)) (.ref (h 11)) (.ref (h 12)) (.ref (h 13)) (.ref (h 14)) (.ref (h 15)) (.ref (h 16)) (.ref (h 17)) (.ref (h 18)) (.ref (h 19)) (.int 0) (.int 0) (.int 0) (.int 0) (.int 0) (.ref (h 20)) (.ref (h 21)) (.int 0) (.ref (h 22)) (.ref (h 23)) (.ref (h 24)) (.ref (h 25)) (.ref (h 26)) (.int 0) (.int 0) (.ref (h 27)) (.ref (h 28)) (.ref (h 29)) (.ref (h 30)) (.ref (h 31)) (.int 0) (.int 0) (.ref (h 32)) (.ref (h 33)) (.ref (h 34)) (.ref (h 35)) (.ref (h 36)) (.ref (h 37)) ) (cwV 1 ht (gv k_336 k_337 k_338 k_314 k_335) rfl rfl rfl (by decide +kernel) ⟨Nat.le_of_ble_eq_true rfl, Nat.le_of_ble_eq_true rfl⟩) ⟨En.blind, va_recv hK hP (ci := 12) (q0 := 0) rfl rfl, fun U hU hW => ⟨rfl, En.of hU hW hPc hK hDc hN⟩⟩ rfl rfl hl.1 rfl (lv_room (Nat.le_of_ble_eq_true rfl)) dX12_song_2 ⟨Nat.le_of_ble_eq_true rfl, Nat.le_of_ble_eq_true rfl⟩) hS (fun q _ h => hFc q h) hFc (fun r_2 u_1 t H locs ht9 hvm hw hB hz1 hk1 hS => ?_)
  have hP := fr_keep hP hk1
  obtain rfl : r_2 = 0 := hw.1
  refine lv_if_eq (tgt := 38) hx hb dX12_song_5 (by decide) (fun _ => ?_) (fun c9 => absurd (by decide) c9)
  refine lv_iconst (v := (-1)) hx hb dX12_song_38 (by decide) ?_
  refine W.widen (k := 0) (n := 0) (Nat.le_of_ble_eq_true rfl) (Nat.le_of_ble_eq_true rfl) ?_
  exact W.iret (v := (-1)) hx hb hr (fun t ht9 hW => ⟨⟨(-1), (), rfl, ⟨rfl, trivial⟩, trivial⟩, hS.F ht9⟩) hS.2.2 dX12_song_39
set_option maxHeartbeats 4000000 in
set_option maxRecDepth 100000 in
theorem m_silence (l : Launch) (G : va_G) (cy : Nat → ClassId) (sz : Nat) (mo : Nat) (h : Nat → Nat) (f : Nat → Nat → Int32)  : Met l yX12_silence (.code yX12_silence cX12_silence 2 (some .int) :: TBg) ({ frames := 1, cells := 0, slots := 0, locals := 64 }) (va_Pc [.ref mo] (En G cy (WM cy mo h f) sz)) (va_Qi (fun (r : Int32) (_ : Unit) => r = 0 ∧ True) (fun _ _ => True) (va_A (WM cy mo h f) sz)) 0 0 (va_A (WM cy mo h f) sz) := by
  refine Met.ofW (cc := cX12_silence) (maxL := 2) (ret := (some .int)) (by decide) rfl ?_
  intro p e s m args below meth c s₁ B hml hv
  obtain ⟨rfl, hsz, hP, hK, hD0, hN⟩ := hv
  have hx := B.exec
  have hb := B.bytes
  have hr := B.returns
  have hts := atoms_spec (ws := .code yX12_silence cX12_silence 2 (some .int) :: TBg) B.pre
  have ht : ∀ w ∈ TBg, w.before _ s = true := fun w h => hts w (List.mem_cons_of_mem _ h)
  have hown : s.vm.findClass RX12 = some m.cls := findClass_of_methodNamed B.named
  have hlocks := B.notSynchronized
  subst hsz
  have hD := hD0.self (sz := s.heap.size)
  generalize hAe : va_A (WM cy mo h f) s.heap.size = A at hD ⊢
  have hA : ∀ q : Nat, s.heap.size ≤ q → A q := fun q h => by rw [← hAe]; exact Or.inr h
  have hS : va_S A s.heap s.heap [] := va_S.rf
  have hl := lv_entry ([.ref mo]) (n := 2) (Nat.le_of_ble_eq_true rfl)
  rw [lg_entry_eq]
  generalize (lg_sl ([.ref mo]) ++ List.replicate (2 - (lg_sl ([.ref mo])).length) Slot.unset).toArray = ls at hl ⊢
  have hl : lv_has ls 2 [(0, .ref mo)] := hl
  refine lv_aload_n hx hb dX12_silence_0 rfl (lv_at hl 0 rfl) ?_
  refine va_get (ci := 12) (v := .int 0) (C := RX12) (T := TX12) (N := 58) hx hb ht iX12 hown hK hP 0 rfl rfl 34 (by decide) (ht _ k_355) (fun _ h9 => h9) rfl dX12_silence_1 ?_
  refine lv_istore_n (lv' := [(1, .int 0), (0, .ref mo)]) hx hb dX12_silence_4 rfl hl (by decide) rfl (fun ls hl => ?_)
  refine lv_aload_n hx hb dX12_silence_5 rfl (lv_at hl 1 rfl) ?_
  refine lv_iconst (v := 0) hx hb dX12_silence_6 (by decide) ?_
  refine va_put (ci := 12) (v := .int 0) (ty := .int) (C := RX12) (T := TX12) (N := 58) hx hb ht iX12 tyX12 tyX12_ok nmX12 hown hK hP hD hS 0 rfl rfl 34 (by decide) (ht _ k_355) (fun _ h9 => h9) rfl (by decide +kernel) rfl rfl (Nat.le_of_ble_eq_true rfl) dX12_silence_7 (fun H locs hP hD hS => ?_)
  refine lv_iload_n hx hb dX12_silence_10 rfl (lv_at hl 0 rfl) ?_
  refine W.widen (k := 0) (n := 0) (Nat.le_of_ble_eq_true rfl) (Nat.le_of_ble_eq_true rfl) ?_
  exact W.iret (v := 0) hx hb hr (fun t ht9 hW => ⟨⟨0, (), rfl, ⟨rfl, trivial⟩, trivial⟩, hS.F ht9⟩) hS.2.2 dX12_silence_11
set_option maxHeartbeats 4000000 in
set_option maxRecDepth 100000 in
theorem m_shut (l : Launch) (G : va_G) (cy : Nat → ClassId) (sz : Nat) (mo : Nat) (h : Nat → Nat) (f : Nat → Nat → Int32) (n : Int32)  : Met l yX12_shut (.code yX12_shut cX12_shut 2 (some .boolean) :: TBg) ({ frames := 3, cells := 0, slots := 0, locals := 192 }) (va_Pc [.ref mo, .int n] (En G cy (WM cy mo h f) sz)) (va_Qi (fun (r : Int32) (_ : Unit) => r = 0 ∧ True) (fun _ _ => True) (va_A (WM cy mo h f) sz)) 0 0 (va_A (WM cy mo h f) sz) := by
  refine Met.ofW (cc := cX12_shut) (maxL := 2) (ret := (some .boolean)) (by decide) rfl ?_
  intro p e s m args below meth c s₁ B hml hv
  obtain ⟨rfl, hsz, hP, hK, hD0, hN⟩ := hv
  have hx := B.exec
  have hb := B.bytes
  have hr := B.returns
  have hts := atoms_spec (ws := .code yX12_shut cX12_shut 2 (some .boolean) :: TBg) B.pre
  have ht : ∀ w ∈ TBg, w.before _ s = true := fun w h => hts w (List.mem_cons_of_mem _ h)
  have hown : s.vm.findClass RX12 = some m.cls := findClass_of_methodNamed B.named
  have hlocks := B.notSynchronized
  subst hsz
  have hD := hD0.self (sz := s.heap.size)
  generalize hAe : va_A (WM cy mo h f) s.heap.size = A at hD ⊢
  have hA : ∀ q : Nat, s.heap.size ≤ q → A q := fun q h => by rw [← hAe]; exact Or.inr h
  have hS : va_S A s.heap s.heap [] := va_S.rf
  have hl := lv_entry ([.ref mo, .int n]) (n := 2) (Nat.le_of_ble_eq_true rfl)
  rw [lg_entry_eq]
  generalize (lg_sl ([.ref mo, .int n]) ++ List.replicate (2 - (lg_sl ([.ref mo, .int n])).length) Slot.unset).toArray = ls at hl ⊢
  have hl : lv_has ls 2 [(0, .ref mo), (1, .int n)] := hl
  refine lv_aload_n hx hb dX12_shut_0 rfl (lv_at hl 0 rfl) ?_
  refine lv_iload_n hx hb dX12_shut_1 rfl (lv_at hl 1 rfl) ?_
  have hFc := fr_new hS hA
  have hPc := hP.sub (ws' := [(mo, .inr (12, [.ref (h 0), .ref (h 1), .int 0, .int 0, .int 0, .int (-1), .int 0, .int 0, .int 0, .int 0, .long 0, .ref (h 2), .ref (h 3), .ref (h 4), .ref (h 5), .ref (h 6), .ref (h 7), .ref (h 8), .ref (h 9), .ref (h 10), .ref (h 11), .ref (h 12), .ref (h 13), .ref (h 14), .ref (h 15), .ref (h 16), .ref (h 17), .ref (h 18), .ref (h 19), .int 0, .int 0, .int 0, .int 0, .int 0, .int 0, .ref (h 20), .ref (h 21), .int 0, .ref (h 22), .ref (h 23), .ref (h 24), .ref (h 25), .ref (h 26), .int 0, .int 0, .ref (h 27), .ref (h 28), .ref (h 29), .ref (h 30), .ref (h 31), .int 0, .int 0, .ref (h 32), .ref (h 33), .ref (h 34), .ref (h 35), .ref (h 36), .ref (h 37)])), ((h 3), .inl (cy 0, 2, .inl (fun _ => 0)))]) [0, 3] rfl
  have hDc := hD.sub (ws' := [(mo, .inr (12, [.ref (h 0), .ref (h 1), .int 0, .int 0, .int 0, .int (-1), .int 0, .int 0, .int 0, .int 0, .long 0, .ref (h 2), .ref (h 3), .ref (h 4), .ref (h 5), .ref (h 6), .ref (h 7), .ref (h 8), .ref (h 9), .ref (h 10), .ref (h 11), .ref (h 12), .ref (h 13), .ref (h 14), .ref (h 15), .ref (h 16), .ref (h 17), .ref (h 18), .ref (h 19), .int 0, .int 0, .int 0, .int 0, .int 0, .int 0, .ref (h 20), .ref (h 21), .int 0, .ref (h 22), .ref (h 23), .ref (h 24), .ref (h 25), .ref (h 26), .int 0, .int 0, .ref (h 27), .ref (h 28), .ref (h 29), .ref (h 30), .ref (h 31), .int 0, .int 0, .ref (h 32), .ref (h 33), .ref (h 34), .ref (h 35), .ref (h 36), .ref (h 37)])), ((h 3), .inl (cy 0, 2, .inl (fun _ => 0)))]) [0, 3] (by decide) rfl
  refine va_calli (va_runV (As := [.int n]) (rest := []) ⟨hx, hb, hml, hown, ht⟩ (m_isLock l G cy _ mo n (h 3) (.ref (h 0)) (.ref (h 1)) (.int 0) (.int 0) (.int 0) (.int (-1)) (.int 0) (.int 0) (.int 0) (.int 0) (.long 0) (.ref (h 2)) (.ref (h 4)) (.ref (h 5)) (.ref (h 6)) (.ref (h 7)) (.ref (h 8)) (.ref (h 9)) (.ref (h 10)) (.ref (h 11)) (.ref (h 12)) (.ref (h 13)) (.ref (h 14)) (.ref (h 15)) (.ref (h 16)) (.ref (h 17)) (.ref (h 18)) (.ref (h 19)) (.int 0) (.int 0) (.int 0) (.int 0) (.int 0) (.ref (h 20)) (.ref (h 21)) (.int 0) (.ref (h 22)) (.ref (h 23)) (.ref (h 24)) (.ref (h 25)) (.ref (h 26)) (.int 0) (.int 0) (.ref (h 27)) (.ref (h 28)) (.ref (h 29)) (.ref (h 30)) (.ref (h 31)) (.int 0) (.int 0) (.ref (h 32)) (.ref (h 33)) (.ref (h 34)) (.ref (h 35)) (.ref (h 36)) (.ref (h 37)) ) (cwV 1 ht (gv k_341 k_342 k_343 k_314 k_340) rfl rfl rfl (by decide +kernel) ⟨Nat.le_of_ble_eq_true rfl, Nat.le_of_ble_eq_true rfl⟩) ⟨En.blind, va_recv hK hP (ci := 12) (q0 := 0) rfl rfl, fun U hU hW => ⟨rfl, En.of hU hW hPc hK hDc hN⟩⟩ rfl rfl hl.1 rfl (lv_room (Nat.le_of_ble_eq_true rfl)) dX12_shut_2 ⟨Nat.le_of_ble_eq_true rfl, Nat.le_of_ble_eq_true rfl⟩) hS (fun q _ h => hFc q h) hFc (fun r_2 u_1 t H locs ht9 hvm hw hB hz1 hk1 hS => ?_)
  have hP := fr_keep hP hk1
  obtain rfl : r_2 = 0 := hw.1
  refine lv_if_eq (tgt := 17) hx hb dX12_shut_5 (by decide) (fun _ => ?_) (fun c9 => absurd (by decide) c9)
  refine lv_iconst (v := 0) hx hb dX12_shut_17 (by decide) ?_
  refine W.widen (k := 0) (n := 0) (Nat.le_of_ble_eq_true rfl) (Nat.le_of_ble_eq_true rfl) ?_
  exact W.zret (v := 0) hx hb hr (by first | rfl | decide) (fun t ht9 hW => ⟨⟨0, (), rfl, ⟨rfl, trivial⟩, trivial⟩, hS.F ht9⟩) hS.2.2 dX12_shut_18
set_option maxHeartbeats 4000000 in
set_option maxRecDepth 100000 in
theorem m_night0 (l : Launch) (G : va_G) (cy : Nat → ClassId) (sz : Nat) (mo : Nat) (h : Nat → Nat) (f : Nat → Nat → Int32)  : Met l yX12_night (.code yX12_night cX12_night 3 (some .boolean) :: TBg) ({ frames := 1, cells := 0, slots := 0, locals := 64 }) (va_Pc [.ref mo, .int 0] (En G cy (WM cy mo h f) sz)) (va_Qi (fun (r : Int32) (_ : Unit) => r = 0 ∧ True) (fun _ _ => True) (va_A (WM cy mo h f) sz)) 0 0 (va_A (WM cy mo h f) sz) := by
  refine Met.ofW (cc := cX12_night) (maxL := 3) (ret := (some .boolean)) (by decide) rfl ?_
  intro p e s m args below meth c s₁ B hml hv
  obtain ⟨rfl, hsz, hP, hK, hD0, hN⟩ := hv
  have hx := B.exec
  have hb := B.bytes
  have hr := B.returns
  have hts := atoms_spec (ws := .code yX12_night cX12_night 3 (some .boolean) :: TBg) B.pre
  have ht : ∀ w ∈ TBg, w.before _ s = true := fun w h => hts w (List.mem_cons_of_mem _ h)
  have hown : s.vm.findClass RX12 = some m.cls := findClass_of_methodNamed B.named
  have hlocks := B.notSynchronized
  subst hsz
  have hD := hD0.self (sz := s.heap.size)
  generalize hAe : va_A (WM cy mo h f) s.heap.size = A at hD ⊢
  have hA : ∀ q : Nat, s.heap.size ≤ q → A q := fun q h => by rw [← hAe]; exact Or.inr h
  have hS : va_S A s.heap s.heap [] := va_S.rf
  have hl := lv_entry ([.ref mo, .int 0]) (n := 3) (Nat.le_of_ble_eq_true rfl)
  rw [lg_entry_eq]
  generalize (lg_sl ([.ref mo, .int 0]) ++ List.replicate (3 - (lg_sl ([.ref mo, .int 0])).length) Slot.unset).toArray = ls at hl ⊢
  have hl : lv_has ls 3 [(0, .ref mo), (1, .int 0)] := hl
  refine lv_aload_n hx hb dX12_night_0 rfl (lv_at hl 0 rfl) ?_
  refine va_get (ci := 12) (v := .int 0) (C := RX12) (T := TX12) (N := 58) hx hb ht iX12 hown hK hP 0 rfl rfl 37 (by decide) (ht _ k_356) (fun _ h9 => h9) rfl dX12_night_1 ?_
  refine lv_istore_n (lv' := [(2, .int 0), (0, .ref mo), (1, .int 0)]) hx hb dX12_night_4 rfl hl (by decide) rfl (fun ls hl => ?_)
  refine lv_aload_n hx hb dX12_night_5 rfl (lv_at hl 1 rfl) ?_
  refine lv_iload_n hx hb dX12_night_6 rfl (lv_at hl 2 rfl) ?_
  refine va_put (ci := 12) (v := .int 0) (ty := .boolean) (C := RX12) (T := TX12) (N := 58) hx hb ht iX12 tyX12 tyX12_ok nmX12 hown hK hP hD hS 0 rfl rfl 37 (by decide) (ht _ k_356) (fun _ h9 => h9) rfl (by decide +kernel) rfl rfl (Nat.le_of_ble_eq_true rfl) dX12_night_7 (fun H locs hP hD hS => ?_)
  refine lv_iload_n hx hb dX12_night_10 rfl (lv_at hl 0 rfl) ?_
  refine lv_iload_n hx hb dX12_night_11 rfl (lv_at hl 2 rfl) ?_
  refine lv_icmp_eq (tgt := 19) hx hb dX12_night_12 (by decide) (fun _ => ?_) (fun c9 => absurd (by decide) c9)
  refine lv_iconst (v := 0) hx hb dX12_night_19 (by decide) ?_
  refine W.widen (k := 0) (n := 0) (Nat.le_of_ble_eq_true rfl) (Nat.le_of_ble_eq_true rfl) ?_
  exact W.zret (v := 0) hx hb hr (by first | rfl | decide) (fun t ht9 hW => ⟨⟨0, (), rfl, ⟨rfl, trivial⟩, trivial⟩, hS.F ht9⟩) hS.2.2 dX12_night_20
set_option maxHeartbeats 4000000 in
set_option maxRecDepth 100000 in
theorem m_night1 (l : Launch) (G : va_G) (cy : Nat → ClassId) (sz : Nat) (mo : Nat) (h : Nat → Nat) (f : Nat → Nat → Int32)  : Met l yX12_night (.code yX12_night cX12_night 3 (some .boolean) :: TBg) ({ frames := 1, cells := 0, slots := 0, locals := 64 }) (va_Pc [.ref mo, .int 1] (En G cy (WM cy mo h f) sz)) (va_Qi (fun (r : Int32) (_ : Unit) => r = 1 ∧ True) (fun _ _ => True) (va_A (WM cy mo h f) sz)) 0 0 (va_A (WM cy mo h f) sz) := by
  refine Met.ofW (cc := cX12_night) (maxL := 3) (ret := (some .boolean)) (by decide) rfl ?_
  intro p e s m args below meth c s₁ B hml hv
  obtain ⟨rfl, hsz, hP, hK, hD0, hN⟩ := hv
  have hx := B.exec
  have hb := B.bytes
  have hr := B.returns
  have hts := atoms_spec (ws := .code yX12_night cX12_night 3 (some .boolean) :: TBg) B.pre
  have ht : ∀ w ∈ TBg, w.before _ s = true := fun w h => hts w (List.mem_cons_of_mem _ h)
  have hown : s.vm.findClass RX12 = some m.cls := findClass_of_methodNamed B.named
  have hlocks := B.notSynchronized
  subst hsz
  have hD := hD0.self (sz := s.heap.size)
  generalize hAe : va_A (WM cy mo h f) s.heap.size = A at hD ⊢
  have hA : ∀ q : Nat, s.heap.size ≤ q → A q := fun q h => by rw [← hAe]; exact Or.inr h
  have hS : va_S A s.heap s.heap [] := va_S.rf
  have hl := lv_entry ([.ref mo, .int 1]) (n := 3) (Nat.le_of_ble_eq_true rfl)
  rw [lg_entry_eq]
  generalize (lg_sl ([.ref mo, .int 1]) ++ List.replicate (3 - (lg_sl ([.ref mo, .int 1])).length) Slot.unset).toArray = ls at hl ⊢
  have hl : lv_has ls 3 [(0, .ref mo), (1, .int 1)] := hl
  refine lv_aload_n hx hb dX12_night_0 rfl (lv_at hl 0 rfl) ?_
  refine va_get (ci := 12) (v := .int 0) (C := RX12) (T := TX12) (N := 58) hx hb ht iX12 hown hK hP 0 rfl rfl 37 (by decide) (ht _ k_356) (fun _ h9 => h9) rfl dX12_night_1 ?_
  refine lv_istore_n (lv' := [(2, .int 0), (0, .ref mo), (1, .int 1)]) hx hb dX12_night_4 rfl hl (by decide) rfl (fun ls hl => ?_)
  refine lv_aload_n hx hb dX12_night_5 rfl (lv_at hl 1 rfl) ?_
  refine lv_iload_n hx hb dX12_night_6 rfl (lv_at hl 2 rfl) ?_
  refine va_put (ci := 12) (v := .int 1) (ty := .boolean) (C := RX12) (T := TX12) (N := 58) hx hb ht iX12 tyX12 tyX12_ok nmX12 hown hK hP hD hS 0 rfl rfl 37 (by decide) (ht _ k_356) (fun _ h9 => h9) rfl (by decide +kernel) rfl rfl (Nat.le_of_ble_eq_true rfl) dX12_night_7 (fun H locs hP hD hS => ?_)
  refine lv_iload_n hx hb dX12_night_10 rfl (lv_at hl 0 rfl) ?_
  refine lv_iload_n hx hb dX12_night_11 rfl (lv_at hl 2 rfl) ?_
  refine lv_icmp_eq (tgt := 19) hx hb dX12_night_12 (by decide) (fun c9 => absurd c9 (by decide)) (fun _ => ?_)
  refine lv_iconst (v := 1) hx hb dX12_night_15 (by decide) ?_
  refine lv_goto (tgt := 20) hx hb dX12_night_16 (by decide) ?_
  refine W.widen (k := 0) (n := 0) (Nat.le_of_ble_eq_true rfl) (Nat.le_of_ble_eq_true rfl) ?_
  exact W.zret (v := 1) hx hb hr (by first | rfl | decide) (fun t ht9 hW => ⟨⟨1, (), rfl, ⟨rfl, trivial⟩, trivial⟩, hS.F ht9⟩) hS.2.2 dX12_night_20
set_option maxHeartbeats 4000000 in
set_option maxRecDepth 100000 in
theorem m_lock (l : Launch) (G : va_G) (cy : Nat → ClassId) (sz : Nat) (mo : Nat) (h : Nat → Nat) (f : Nat → Nat → Int32) (n : Int32) (n2 : Int32)  : Met l yX12_lock (.code yX12_lock cX12_lock 3 (some .int) :: TBg) ({ frames := 3, cells := 0, slots := 0, locals := 192 }) (va_Pc [.ref mo, .int n, .int n2] (En G cy (WM cy mo h f) sz)) (va_Qi (fun (r : Int32) (_ : Unit) => r = (-1) ∧ True) (fun _ _ => True) (va_A (WM cy mo h f) sz)) 0 0 (va_A (WM cy mo h f) sz) := by
  refine Met.ofW (cc := cX12_lock) (maxL := 3) (ret := (some .int)) (by decide) rfl ?_
  intro p e s m args below meth c s₁ B hml hv
  obtain ⟨rfl, hsz, hP, hK, hD0, hN⟩ := hv
  have hx := B.exec
  have hb := B.bytes
  have hr := B.returns
  have hts := atoms_spec (ws := .code yX12_lock cX12_lock 3 (some .int) :: TBg) B.pre
  have ht : ∀ w ∈ TBg, w.before _ s = true := fun w h => hts w (List.mem_cons_of_mem _ h)
  have hown : s.vm.findClass RX12 = some m.cls := findClass_of_methodNamed B.named
  have hlocks := B.notSynchronized
  subst hsz
  have hD := hD0.self (sz := s.heap.size)
  generalize hAe : va_A (WM cy mo h f) s.heap.size = A at hD ⊢
  have hA : ∀ q : Nat, s.heap.size ≤ q → A q := fun q h => by rw [← hAe]; exact Or.inr h
  have hS : va_S A s.heap s.heap [] := va_S.rf
  have hl := lv_entry ([.ref mo, .int n, .int n2]) (n := 3) (Nat.le_of_ble_eq_true rfl)
  rw [lg_entry_eq]
  generalize (lg_sl ([.ref mo, .int n, .int n2]) ++ List.replicate (3 - (lg_sl ([.ref mo, .int n, .int n2])).length) Slot.unset).toArray = ls at hl ⊢
  have hl : lv_has ls 3 [(0, .ref mo), (1, .int n), (2, .int n2)] := hl
  refine lv_aload_n hx hb dX12_lock_0 rfl (lv_at hl 0 rfl) ?_
  refine lv_iload_n hx hb dX12_lock_1 rfl (lv_at hl 1 rfl) ?_
  have hFc := fr_new hS hA
  have hPc := hP.sub (ws' := [(mo, .inr (12, [.ref (h 0), .ref (h 1), .int 0, .int 0, .int 0, .int (-1), .int 0, .int 0, .int 0, .int 0, .long 0, .ref (h 2), .ref (h 3), .ref (h 4), .ref (h 5), .ref (h 6), .ref (h 7), .ref (h 8), .ref (h 9), .ref (h 10), .ref (h 11), .ref (h 12), .ref (h 13), .ref (h 14), .ref (h 15), .ref (h 16), .ref (h 17), .ref (h 18), .ref (h 19), .int 0, .int 0, .int 0, .int 0, .int 0, .int 0, .ref (h 20), .ref (h 21), .int 0, .ref (h 22), .ref (h 23), .ref (h 24), .ref (h 25), .ref (h 26), .int 0, .int 0, .ref (h 27), .ref (h 28), .ref (h 29), .ref (h 30), .ref (h 31), .int 0, .int 0, .ref (h 32), .ref (h 33), .ref (h 34), .ref (h 35), .ref (h 36), .ref (h 37)])), ((h 3), .inl (cy 0, 2, .inl (fun _ => 0)))]) [0, 3] rfl
  have hDc := hD.sub (ws' := [(mo, .inr (12, [.ref (h 0), .ref (h 1), .int 0, .int 0, .int 0, .int (-1), .int 0, .int 0, .int 0, .int 0, .long 0, .ref (h 2), .ref (h 3), .ref (h 4), .ref (h 5), .ref (h 6), .ref (h 7), .ref (h 8), .ref (h 9), .ref (h 10), .ref (h 11), .ref (h 12), .ref (h 13), .ref (h 14), .ref (h 15), .ref (h 16), .ref (h 17), .ref (h 18), .ref (h 19), .int 0, .int 0, .int 0, .int 0, .int 0, .int 0, .ref (h 20), .ref (h 21), .int 0, .ref (h 22), .ref (h 23), .ref (h 24), .ref (h 25), .ref (h 26), .int 0, .int 0, .ref (h 27), .ref (h 28), .ref (h 29), .ref (h 30), .ref (h 31), .int 0, .int 0, .ref (h 32), .ref (h 33), .ref (h 34), .ref (h 35), .ref (h 36), .ref (h 37)])), ((h 3), .inl (cy 0, 2, .inl (fun _ => 0)))]) [0, 3] (by decide) rfl
  refine va_calli (va_runV (As := [.int n]) (rest := []) ⟨hx, hb, hml, hown, ht⟩ (m_isLock l G cy _ mo n (h 3) (.ref (h 0)) (.ref (h 1)) (.int 0) (.int 0) (.int 0) (.int (-1)) (.int 0) (.int 0) (.int 0) (.int 0) (.long 0) (.ref (h 2)) (.ref (h 4)) (.ref (h 5)) (.ref (h 6)) (.ref (h 7)) (.ref (h 8)) (.ref (h 9)) (.ref (h 10)) (.ref (h 11)) (.ref (h 12)) (.ref (h 13)) (.ref (h 14)) (.ref (h 15)) (.ref (h 16)) (.ref (h 17)) (.ref (h 18)) (.ref (h 19)) (.int 0) (.int 0) (.int 0) (.int 0) (.int 0) (.ref (h 20)) (.ref (h 21)) (.int 0) (.ref (h 22)) (.ref (h 23)) (.ref (h 24)) (.ref (h 25)) (.ref (h 26)) (.int 0) (.int 0) (.ref (h 27)) (.ref (h 28)) (.ref (h 29)) (.ref (h 30)) (.ref (h 31)) (.int 0) (.int 0) (.ref (h 32)) (.ref (h 33)) (.ref (h 34)) (.ref (h 35)) (.ref (h 36)) (.ref (h 37)) ) (cwV 1 ht (gv k_341 k_342 k_343 k_314 k_340) rfl rfl rfl (by decide +kernel) ⟨Nat.le_of_ble_eq_true rfl, Nat.le_of_ble_eq_true rfl⟩) ⟨En.blind, va_recv hK hP (ci := 12) (q0 := 0) rfl rfl, fun U hU hW => ⟨rfl, En.of hU hW hPc hK hDc hN⟩⟩ rfl rfl hl.1 rfl (lv_room (Nat.le_of_ble_eq_true rfl)) dX12_lock_2 ⟨Nat.le_of_ble_eq_true rfl, Nat.le_of_ble_eq_true rfl⟩) hS (fun q _ h => hFc q h) hFc (fun r_2 u_1 t H locs ht9 hvm hw hB hz1 hk1 hS => ?_)
  have hP := fr_keep hP hk1
  obtain rfl : r_2 = 0 := hw.1
  refine lv_if_ne (tgt := 10) hx hb dX12_lock_5 (by decide) (fun c9 => absurd (by decide) c9) (fun _ => ?_)
  refine lv_iconst (v := (-1)) hx hb dX12_lock_8 (by decide) ?_
  refine W.widen (k := 0) (n := 0) (Nat.le_of_ble_eq_true rfl) (Nat.le_of_ble_eq_true rfl) ?_
  exact W.iret (v := (-1)) hx hb hr (fun t ht9 hW => ⟨⟨(-1), (), rfl, ⟨rfl, trivial⟩, trivial⟩, hS.F ht9⟩) hS.2.2 dX12_lock_9
set_option maxHeartbeats 4000000 in
set_option maxRecDepth 100000 in
theorem m_heard (l : Launch) (G : va_G) (cy : Nat → ClassId) (sz : Nat) (mo : Nat) (h : Nat → Nat) (f : Nat → Nat → Int32) (n : Int32) (n2 : Int32)  : Met l yX12_heard (.code yX12_heard cX12_heard 3 (some .int) :: TBg) ({ frames := 3, cells := 0, slots := 0, locals := 192 }) (va_Pc [.ref mo, .int n, .int n2] (En G cy (WM cy mo h f) sz)) (va_Qi (fun (r : Int32) (_ : Unit) => r = (-1) ∧ True) (fun _ _ => True) (va_A (WM cy mo h f) sz)) 0 0 (va_A (WM cy mo h f) sz) := by
  refine Met.ofW (cc := cX12_heard) (maxL := 3) (ret := (some .int)) (by decide) rfl ?_
  intro p e s m args below meth c s₁ B hml hv
  obtain ⟨rfl, hsz, hP, hK, hD0, hN⟩ := hv
  have hx := B.exec
  have hb := B.bytes
  have hr := B.returns
  have hts := atoms_spec (ws := .code yX12_heard cX12_heard 3 (some .int) :: TBg) B.pre
  have ht : ∀ w ∈ TBg, w.before _ s = true := fun w h => hts w (List.mem_cons_of_mem _ h)
  have hown : s.vm.findClass RX12 = some m.cls := findClass_of_methodNamed B.named
  have hlocks := B.notSynchronized
  subst hsz
  have hD := hD0.self (sz := s.heap.size)
  generalize hAe : va_A (WM cy mo h f) s.heap.size = A at hD ⊢
  have hA : ∀ q : Nat, s.heap.size ≤ q → A q := fun q h => by rw [← hAe]; exact Or.inr h
  have hS : va_S A s.heap s.heap [] := va_S.rf
  have hl := lv_entry ([.ref mo, .int n, .int n2]) (n := 3) (Nat.le_of_ble_eq_true rfl)
  rw [lg_entry_eq]
  generalize (lg_sl ([.ref mo, .int n, .int n2]) ++ List.replicate (3 - (lg_sl ([.ref mo, .int n, .int n2])).length) Slot.unset).toArray = ls at hl ⊢
  have hl : lv_has ls 3 [(0, .ref mo), (1, .int n), (2, .int n2)] := hl
  refine lv_aload_n hx hb dX12_heard_0 rfl (lv_at hl 0 rfl) ?_
  refine lv_iload_n hx hb dX12_heard_1 rfl (lv_at hl 1 rfl) ?_
  have hFc := fr_new hS hA
  have hPc := hP.sub (ws' := [(mo, .inr (12, [.ref (h 0), .ref (h 1), .int 0, .int 0, .int 0, .int (-1), .int 0, .int 0, .int 0, .int 0, .long 0, .ref (h 2), .ref (h 3), .ref (h 4), .ref (h 5), .ref (h 6), .ref (h 7), .ref (h 8), .ref (h 9), .ref (h 10), .ref (h 11), .ref (h 12), .ref (h 13), .ref (h 14), .ref (h 15), .ref (h 16), .ref (h 17), .ref (h 18), .ref (h 19), .int 0, .int 0, .int 0, .int 0, .int 0, .int 0, .ref (h 20), .ref (h 21), .int 0, .ref (h 22), .ref (h 23), .ref (h 24), .ref (h 25), .ref (h 26), .int 0, .int 0, .ref (h 27), .ref (h 28), .ref (h 29), .ref (h 30), .ref (h 31), .int 0, .int 0, .ref (h 32), .ref (h 33), .ref (h 34), .ref (h 35), .ref (h 36), .ref (h 37)])), ((h 2), .inl (cy 0, 2, .inl (fun _ => 0)))]) [0, 2] rfl
  have hDc := hD.sub (ws' := [(mo, .inr (12, [.ref (h 0), .ref (h 1), .int 0, .int 0, .int 0, .int (-1), .int 0, .int 0, .int 0, .int 0, .long 0, .ref (h 2), .ref (h 3), .ref (h 4), .ref (h 5), .ref (h 6), .ref (h 7), .ref (h 8), .ref (h 9), .ref (h 10), .ref (h 11), .ref (h 12), .ref (h 13), .ref (h 14), .ref (h 15), .ref (h 16), .ref (h 17), .ref (h 18), .ref (h 19), .int 0, .int 0, .int 0, .int 0, .int 0, .int 0, .ref (h 20), .ref (h 21), .int 0, .ref (h 22), .ref (h 23), .ref (h 24), .ref (h 25), .ref (h 26), .int 0, .int 0, .ref (h 27), .ref (h 28), .ref (h 29), .ref (h 30), .ref (h 31), .int 0, .int 0, .ref (h 32), .ref (h 33), .ref (h 34), .ref (h 35), .ref (h 36), .ref (h 37)])), ((h 2), .inl (cy 0, 2, .inl (fun _ => 0)))]) [0, 2] (by decide) rfl
  refine va_calli (va_runV (As := [.int n]) (rest := []) ⟨hx, hb, hml, hown, ht⟩ (m_isTune l G cy _ mo n (h 2) (.ref (h 0)) (.ref (h 1)) (.int 0) (.int 0) (.int 0) (.int (-1)) (.int 0) (.int 0) (.int 0) (.int 0) (.long 0) (.ref (h 3)) (.ref (h 4)) (.ref (h 5)) (.ref (h 6)) (.ref (h 7)) (.ref (h 8)) (.ref (h 9)) (.ref (h 10)) (.ref (h 11)) (.ref (h 12)) (.ref (h 13)) (.ref (h 14)) (.ref (h 15)) (.ref (h 16)) (.ref (h 17)) (.ref (h 18)) (.ref (h 19)) (.int 0) (.int 0) (.int 0) (.int 0) (.int 0) (.ref (h 20)) (.ref (h 21)) (.int 0) (.ref (h 22)) (.ref (h 23)) (.ref (h 24)) (.ref (h 25)) (.ref (h 26)) (.int 0) (.int 0) (.ref (h 27)) (.ref (h 28)) (.ref (h 29)) (.ref (h 30)) (.ref (h 31)) (.int 0) (.int 0) (.ref (h 32)) (.ref (h 33)) (.ref (h 34)) (.ref (h 35)) (.ref (h 36)) (.ref (h 37)) ) (cwV 1 ht (gv k_336 k_337 k_338 k_314 k_335) rfl rfl rfl (by decide +kernel) ⟨Nat.le_of_ble_eq_true rfl, Nat.le_of_ble_eq_true rfl⟩) ⟨En.blind, va_recv hK hP (ci := 12) (q0 := 0) rfl rfl, fun U hU hW => ⟨rfl, En.of hU hW hPc hK hDc hN⟩⟩ rfl rfl hl.1 rfl (lv_room (Nat.le_of_ble_eq_true rfl)) dX12_heard_2 ⟨Nat.le_of_ble_eq_true rfl, Nat.le_of_ble_eq_true rfl⟩) hS (fun q _ h => hFc q h) hFc (fun r_2 u_1 t H locs ht9 hvm hw hB hz1 hk1 hS => ?_)
  have hP := fr_keep hP hk1
  obtain rfl : r_2 = 0 := hw.1
  refine lv_if_eq (tgt := 23) hx hb dX12_heard_5 (by decide) (fun _ => ?_) (fun c9 => absurd (by decide) c9)
  refine lv_iconst (v := (-1)) hx hb dX12_heard_23 (by decide) ?_
  refine W.widen (k := 0) (n := 0) (Nat.le_of_ble_eq_true rfl) (Nat.le_of_ble_eq_true rfl) ?_
  exact W.iret (v := (-1)) hx hb hr (fun t ht9 hW => ⟨⟨(-1), (), rfl, ⟨rfl, trivial⟩, trivial⟩, hS.F ht9⟩) hS.2.2 dX12_heard_24
set_option maxHeartbeats 4000000 in
set_option maxRecDepth 100000 in
theorem m_watch (l : Launch) (G : va_G) (cy : Nat → ClassId) (sz : Nat) (mo : Nat) (h : Nat → Nat) (f : Nat → Nat → Int32) (n : Int32) (n2 : Int32) (n3 : Int32)  : Met l yX12_watch (.code yX12_watch cX12_watch 4 (some .int) :: TBg) ({ frames := 3, cells := 0, slots := 0, locals := 192 }) (va_Pc [.ref mo, .int n, .int n2, .int n3] (En G cy (WM cy mo h f) sz)) (va_Qi (fun (r : Int32) (_ : Unit) => r = (-1) ∧ True) (fun _ _ => True) (va_A (WM cy mo h f) sz)) 0 0 (va_A (WM cy mo h f) sz) := by
  refine Met.ofW (cc := cX12_watch) (maxL := 4) (ret := (some .int)) (by decide) rfl ?_
  intro p e s m args below meth c s₁ B hml hv
  obtain ⟨rfl, hsz, hP, hK, hD0, hN⟩ := hv
  have hx := B.exec
  have hb := B.bytes
  have hr := B.returns
  have hts := atoms_spec (ws := .code yX12_watch cX12_watch 4 (some .int) :: TBg) B.pre
  have ht : ∀ w ∈ TBg, w.before _ s = true := fun w h => hts w (List.mem_cons_of_mem _ h)
  have hown : s.vm.findClass RX12 = some m.cls := findClass_of_methodNamed B.named
  have hlocks := B.notSynchronized
  subst hsz
  have hD := hD0.self (sz := s.heap.size)
  generalize hAe : va_A (WM cy mo h f) s.heap.size = A at hD ⊢
  have hA : ∀ q : Nat, s.heap.size ≤ q → A q := fun q h => by rw [← hAe]; exact Or.inr h
  have hS : va_S A s.heap s.heap [] := va_S.rf
  have hl := lv_entry ([.ref mo, .int n, .int n2, .int n3]) (n := 4) (Nat.le_of_ble_eq_true rfl)
  rw [lg_entry_eq]
  generalize (lg_sl ([.ref mo, .int n, .int n2, .int n3]) ++ List.replicate (4 - (lg_sl ([.ref mo, .int n, .int n2, .int n3])).length) Slot.unset).toArray = ls at hl ⊢
  have hl : lv_has ls 4 [(0, .ref mo), (1, .int n), (2, .int n2), (3, .int n3)] := hl
  refine lv_aload_n hx hb dX12_watch_0 rfl (lv_at hl 0 rfl) ?_
  refine lv_iload_n hx hb dX12_watch_1 rfl (lv_at hl 1 rfl) ?_
  have hFc := fr_new hS hA
  have hPc := hP.sub (ws' := [(mo, .inr (12, [.ref (h 0), .ref (h 1), .int 0, .int 0, .int 0, .int (-1), .int 0, .int 0, .int 0, .int 0, .long 0, .ref (h 2), .ref (h 3), .ref (h 4), .ref (h 5), .ref (h 6), .ref (h 7), .ref (h 8), .ref (h 9), .ref (h 10), .ref (h 11), .ref (h 12), .ref (h 13), .ref (h 14), .ref (h 15), .ref (h 16), .ref (h 17), .ref (h 18), .ref (h 19), .int 0, .int 0, .int 0, .int 0, .int 0, .int 0, .ref (h 20), .ref (h 21), .int 0, .ref (h 22), .ref (h 23), .ref (h 24), .ref (h 25), .ref (h 26), .int 0, .int 0, .ref (h 27), .ref (h 28), .ref (h 29), .ref (h 30), .ref (h 31), .int 0, .int 0, .ref (h 32), .ref (h 33), .ref (h 34), .ref (h 35), .ref (h 36), .ref (h 37)])), ((h 3), .inl (cy 0, 2, .inl (fun _ => 0)))]) [0, 3] rfl
  have hDc := hD.sub (ws' := [(mo, .inr (12, [.ref (h 0), .ref (h 1), .int 0, .int 0, .int 0, .int (-1), .int 0, .int 0, .int 0, .int 0, .long 0, .ref (h 2), .ref (h 3), .ref (h 4), .ref (h 5), .ref (h 6), .ref (h 7), .ref (h 8), .ref (h 9), .ref (h 10), .ref (h 11), .ref (h 12), .ref (h 13), .ref (h 14), .ref (h 15), .ref (h 16), .ref (h 17), .ref (h 18), .ref (h 19), .int 0, .int 0, .int 0, .int 0, .int 0, .int 0, .ref (h 20), .ref (h 21), .int 0, .ref (h 22), .ref (h 23), .ref (h 24), .ref (h 25), .ref (h 26), .int 0, .int 0, .ref (h 27), .ref (h 28), .ref (h 29), .ref (h 30), .ref (h 31), .int 0, .int 0, .ref (h 32), .ref (h 33), .ref (h 34), .ref (h 35), .ref (h 36), .ref (h 37)])), ((h 3), .inl (cy 0, 2, .inl (fun _ => 0)))]) [0, 3] (by decide) rfl
  refine va_calli (va_runV (As := [.int n]) (rest := []) ⟨hx, hb, hml, hown, ht⟩ (m_isLock l G cy _ mo n (h 3) (.ref (h 0)) (.ref (h 1)) (.int 0) (.int 0) (.int 0) (.int (-1)) (.int 0) (.int 0) (.int 0) (.int 0) (.long 0) (.ref (h 2)) (.ref (h 4)) (.ref (h 5)) (.ref (h 6)) (.ref (h 7)) (.ref (h 8)) (.ref (h 9)) (.ref (h 10)) (.ref (h 11)) (.ref (h 12)) (.ref (h 13)) (.ref (h 14)) (.ref (h 15)) (.ref (h 16)) (.ref (h 17)) (.ref (h 18)) (.ref (h 19)) (.int 0) (.int 0) (.int 0) (.int 0) (.int 0) (.ref (h 20)) (.ref (h 21)) (.int 0) (.ref (h 22)) (.ref (h 23)) (.ref (h 24)) (.ref (h 25)) (.ref (h 26)) (.int 0) (.int 0) (.ref (h 27)) (.ref (h 28)) (.ref (h 29)) (.ref (h 30)) (.ref (h 31)) (.int 0) (.int 0) (.ref (h 32)) (.ref (h 33)) (.ref (h 34)) (.ref (h 35)) (.ref (h 36)) (.ref (h 37)) ) (cwV 1 ht (gv k_341 k_342 k_343 k_314 k_340) rfl rfl rfl (by decide +kernel) ⟨Nat.le_of_ble_eq_true rfl, Nat.le_of_ble_eq_true rfl⟩) ⟨En.blind, va_recv hK hP (ci := 12) (q0 := 0) rfl rfl, fun U hU hW => ⟨rfl, En.of hU hW hPc hK hDc hN⟩⟩ rfl rfl hl.1 rfl (lv_room (Nat.le_of_ble_eq_true rfl)) dX12_watch_2 ⟨Nat.le_of_ble_eq_true rfl, Nat.le_of_ble_eq_true rfl⟩) hS (fun q _ h => hFc q h) hFc (fun r_2 u_1 t H locs ht9 hvm hw hB hz1 hk1 hS => ?_)
  have hP := fr_keep hP hk1
  obtain rfl : r_2 = 0 := hw.1
  refine lv_if_eq (tgt := 17) hx hb dX12_watch_5 (by decide) (fun _ => ?_) (fun c9 => absurd (by decide) c9)
  refine lv_iconst (v := (-1)) hx hb dX12_watch_17 (by decide) ?_
  refine W.widen (k := 0) (n := 0) (Nat.le_of_ble_eq_true rfl) (Nat.le_of_ble_eq_true rfl) ?_
  exact W.iret (v := (-1)) hx hb hr (fun t ht9 hW => ⟨⟨(-1), (), rfl, ⟨rfl, trivial⟩, trivial⟩, hS.F ht9⟩) hS.2.2 dX12_watch_18
set_option maxHeartbeats 4000000 in
set_option maxRecDepth 100000 in
theorem m_untell (l : Launch) (G : va_G) (cy : Nat → ClassId) (sz : Nat) (mo : Nat) (h : Nat → Nat) (f : Nat → Nat → Int32) (n : Int32)  : Met l yX12_untell (.code yX12_untell cX12_untell 2 (some .boolean) :: TBg) ({ frames := 2, cells := 0, slots := 0, locals := 128 }) (va_Pc [.ref mo, .int n] (En G cy (WM cy mo h f) sz)) (va_Qi (fun (r : Int32) (_ : Unit) => r = 0 ∧ True) (fun _ _ => True) (va_A (WM cy mo h f) sz)) 0 0 (va_A (WM cy mo h f) sz) := by
  refine Met.ofW (cc := cX12_untell) (maxL := 2) (ret := (some .boolean)) (by decide) rfl ?_
  intro p e s m args below meth c s₁ B hml hv
  obtain ⟨rfl, hsz, hP, hK, hD0, hN⟩ := hv
  have hx := B.exec
  have hb := B.bytes
  have hr := B.returns
  have hts := atoms_spec (ws := .code yX12_untell cX12_untell 2 (some .boolean) :: TBg) B.pre
  have ht : ∀ w ∈ TBg, w.before _ s = true := fun w h => hts w (List.mem_cons_of_mem _ h)
  have hown : s.vm.findClass RX12 = some m.cls := findClass_of_methodNamed B.named
  have hlocks := B.notSynchronized
  subst hsz
  have hD := hD0.self (sz := s.heap.size)
  generalize hAe : va_A (WM cy mo h f) s.heap.size = A at hD ⊢
  have hA : ∀ q : Nat, s.heap.size ≤ q → A q := fun q h => by rw [← hAe]; exact Or.inr h
  have hS : va_S A s.heap s.heap [] := va_S.rf
  have hl := lv_entry ([.ref mo, .int n]) (n := 2) (Nat.le_of_ble_eq_true rfl)
  rw [lg_entry_eq]
  generalize (lg_sl ([.ref mo, .int n]) ++ List.replicate (2 - (lg_sl ([.ref mo, .int n])).length) Slot.unset).toArray = ls at hl ⊢
  have hl : lv_has ls 2 [(0, .ref mo), (1, .int n)] := hl
  refine lv_iload_n hx hb dX12_untell_0 rfl (lv_at hl 1 rfl) ?_
  refine lv_iconst (v := 0) hx hb dX12_untell_1 (by decide) ?_
  refine lv_aload_n hx hb dX12_untell_2 rfl (lv_at hl 0 rfl) ?_
  refine va_get (ci := 12) (v := .int 0) (C := RX12) (T := TX12) (N := 58) hx hb ht iX12 hown hK hP 0 rfl rfl 50 (by decide) (ht _ k_357) (fun _ h9 => h9) rfl dX12_untell_3 ?_
  refine lv_iconst (v := 1) hx hb dX12_untell_6 (by decide) ?_
  refine lv_isub hx hb dX12_untell_7 ?_
  refine ow_top (-1) (by decide +kernel) ?_
  have hFc := fr_new hS hA
  have hPc := hP.sub (ws' := []) [] rfl
  have hDc := hD.sub (ws' := []) [] (by decide) rfl
  refine va_calli (va_runS (As := [.int n, .int 0, .int (-1)]) (rest := []) ⟨hx, hb, hml, hown, ht⟩ (m_isIn l G cy _ n 0 (-1) ) (va_cwS 3 ht (gs k_317 k_318 k_314 k_316) rfl rfl rfl (by decide +kernel) ⟨Nat.le_of_ble_eq_true rfl, Nat.le_of_ble_eq_true rfl⟩) ⟨En.blind, fun U hU hW => ⟨rfl, En.of hU hW hPc hK hDc hN⟩⟩ rfl rfl hl.1 rfl (lv_room (Nat.le_of_ble_eq_true rfl)) dX12_untell_8 ⟨Nat.le_of_ble_eq_true rfl, Nat.le_of_ble_eq_true rfl⟩) hS (fun q _ h => hFc q h) hFc (fun r_2 u_1 t H locs ht9 hvm hw hB hz1 hk1 hS => ?_)
  have hP := fr_keep hP hk1
  have e_3 := hw.1
  obtain rfl : r_2 = 0 := e_3.trans (if_neg (fun hc9 => by have z0 : (0 : Int32).toInt = 0 := (by decide); have z1 : (-1 : Int32).toInt = -1 := (by decide); simp only [ow_le] at hc9; omega))
  refine lv_if_eq (tgt := 23) hx hb dX12_untell_11 (by decide) (fun _ => ?_) (fun c9 => absurd (by decide) c9)
  refine lv_iconst (v := 0) hx hb dX12_untell_23 (by decide) ?_
  refine W.widen (k := 0) (n := 0) (Nat.le_of_ble_eq_true rfl) (Nat.le_of_ble_eq_true rfl) ?_
  exact W.zret (v := 0) hx hb hr (by first | rfl | decide) (fun t ht9 hW => ⟨⟨0, (), rfl, ⟨rfl, trivial⟩, trivial⟩, hS.F ht9⟩) hS.2.2 dX12_untell_24
set_option maxHeartbeats 4000000 in
set_option maxRecDepth 100000 in
theorem m_later (l : Launch) (G : va_G) (cy : Nat → ClassId) (sz : Nat) (mo : Nat) (h : Nat → Nat) (f : Nat → Nat → Int32) (n : Int32)  : Met l yX12_later (.code yX12_later cX12_later 2 (some .int) :: TBg) ({ frames := 2, cells := 0, slots := 0, locals := 128 }) (va_Pc [.ref mo, .int n] (En G cy (WM cy mo h f) sz)) (va_Qi (fun (r : Int32) (_ : Unit) => r = (sp_later n) ∧ True) (fun _ _ => True) (va_A (WM cy mo h f) sz)) 0 0 (va_A (WM cy mo h f) sz) := by
  refine Met.ofW (cc := cX12_later) (maxL := 2) (ret := (some .int)) (by decide) rfl ?_
  intro p e s m args below meth c s₁ B hml hv
  obtain ⟨rfl, hsz, hP, hK, hD0, hN⟩ := hv
  have hx := B.exec
  have hb := B.bytes
  have hr := B.returns
  have hts := atoms_spec (ws := .code yX12_later cX12_later 2 (some .int) :: TBg) B.pre
  have ht : ∀ w ∈ TBg, w.before _ s = true := fun w h => hts w (List.mem_cons_of_mem _ h)
  have hown : s.vm.findClass RX12 = some m.cls := findClass_of_methodNamed B.named
  have hlocks := B.notSynchronized
  subst hsz
  have hD := hD0.self (sz := s.heap.size)
  generalize hAe : va_A (WM cy mo h f) s.heap.size = A at hD ⊢
  have hA : ∀ q : Nat, s.heap.size ≤ q → A q := fun q h => by rw [← hAe]; exact Or.inr h
  have hS : va_S A s.heap s.heap [] := va_S.rf
  have hl := lv_entry ([.ref mo, .int n]) (n := 2) (Nat.le_of_ble_eq_true rfl)
  rw [lg_entry_eq]
  generalize (lg_sl ([.ref mo, .int n]) ++ List.replicate (2 - (lg_sl ([.ref mo, .int n])).length) Slot.unset).toArray = ls at hl ⊢
  have hl : lv_has ls 2 [(0, .ref mo), (1, .int n)] := hl
  refine lv_iload_n hx hb dX12_later_0 rfl (lv_at hl 1 rfl) ?_
  refine lv_iconst (v := 0) hx hb dX12_later_1 (by decide) ?_
  refine lv_sipush (v := 1000) hx hb dX12_later_2 (by decide) ?_
  have hFc := fr_new hS hA
  have hPc := hP.sub (ws' := []) [] rfl
  have hDc := hD.sub (ws' := []) [] (by decide) rfl
  refine va_calli (va_runS (As := [.int n, .int 0, .int 1000]) (rest := []) ⟨hx, hb, hml, hown, ht⟩ (m_isIn l G cy _ n 0 1000 ) (va_cwS 3 ht (gs k_317 k_318 k_314 k_316) rfl rfl rfl (by decide +kernel) ⟨Nat.le_of_ble_eq_true rfl, Nat.le_of_ble_eq_true rfl⟩) ⟨En.blind, fun U hU hW => ⟨rfl, En.of hU hW hPc hK hDc hN⟩⟩ rfl rfl hl.1 rfl (lv_room (Nat.le_of_ble_eq_true rfl)) dX12_later_5 ⟨Nat.le_of_ble_eq_true rfl, Nat.le_of_ble_eq_true rfl⟩) hS (fun q _ h => hFc q h) hFc (fun r_2 u_1 t H locs ht9 hvm hw hB hz1 hk1 hS => ?_)
  have hP := fr_keep hP hk1
  have e_3 := hw.1
  refine lv_if_eq (tgt := 23) hx hb dX12_later_8 (by decide) (fun c_4 => ?_) (fun c_4 => ?_)
  · skip
    have g_5 := ow_i0 e_3 c_4
    refine lv_iconst (v := (-1)) hx hb dX12_later_23 (by decide) ?_
    refine W.widen (k := 0) (n := 0) (Nat.le_of_ble_eq_true rfl) (Nat.le_of_ble_eq_true rfl) ?_
    exact W.iret (v := (-1)) hx hb hr (fun t ht9 hW => ⟨⟨(-1), (), rfl, ⟨(by unfold sp_later; have z0 : (0 : Int32).toInt = 0 := (by decide); have z1 : (1000 : Int32).toInt = 1000 := (by decide); split <;> first | rfl | (exfalso; rename_i hc9; (try simp only [ow_lt, ow_le, ow_eq, true_and, and_true] at hc9 g_5); omega)), trivial⟩, trivial⟩, hS.F ht9⟩) hS.2.2 dX12_later_24
  · skip
    have g_6 := ow_i1 e_3 c_4
    refine lv_aload_n hx hb dX12_later_11 rfl (lv_at hl 0 rfl) ?_
    refine va_get (ci := 12) (v := .int 0) (C := RX12) (T := TX12) (N := 58) hx hb ht iX12 hown hK hP 0 rfl rfl 51 (by decide) (ht _ k_358) (fun _ h9 => h9) rfl dX12_later_12 ?_
    refine lv_iload_n hx hb dX12_later_15 rfl (lv_at hl 1 rfl) ?_
    refine lv_iadd hx hb dX12_later_16 ?_
    refine ow_top n (by simp) ?_
    refine lv_ldcw (v := 100000) hx hb hown (ht _ k_359) dX12_later_17 ?_
    refine lv_icmp_le (tgt := 25) hx hb dX12_later_20 (by decide) (fun c_7 => ?_) (fun c_7 => ?_)
    · skip
      refine lv_aload_n hx hb dX12_later_25 rfl (lv_at hl 0 rfl) ?_
      refine lv_dup hx hb dX12_later_26 rfl ?_
      refine va_get (ci := 12) (v := .int 0) (C := RX12) (T := TX12) (N := 58) hx hb ht iX12 hown hK hP 0 rfl rfl 51 (by decide) (ht _ k_358) (fun _ h9 => h9) rfl dX12_later_27 ?_
      refine lv_iload_n hx hb dX12_later_30 rfl (lv_at hl 1 rfl) ?_
      refine lv_iadd hx hb dX12_later_31 ?_
      refine ow_top n (by simp) ?_
      refine va_put (ci := 12) (v := .int n) (ty := .int) (C := RX12) (T := TX12) (N := 58) hx hb ht iX12 tyX12 tyX12_ok nmX12 hown hK hP hD hS 0 rfl rfl 51 (by decide) (ht _ k_358) (fun _ h9 => h9) rfl (by decide +kernel) rfl rfl (Nat.le_of_ble_eq_true rfl) dX12_later_32 (fun H locs hP hD hS => ?_)
      refine lv_aload_n hx hb dX12_later_35 rfl (lv_at hl 0 rfl) ?_
      refine va_get (ci := 12) (v := .int n) (C := RX12) (T := TX12) (N := 58) hx hb ht iX12 hown hK hP 0 rfl rfl 51 (by decide) (ht _ k_358) (fun _ h9 => h9) rfl dX12_later_36 ?_
      refine W.widen (k := 0) (n := 0) (Nat.le_of_ble_eq_true rfl) (Nat.le_of_ble_eq_true rfl) ?_
      exact W.iret (v := n) hx hb hr (fun t ht9 hW => ⟨⟨n, (), rfl, ⟨(by unfold sp_later; have z0 : (0 : Int32).toInt = 0 := (by decide); have z1 : (1000 : Int32).toInt = 1000 := (by decide); have z2 : (100000 : Int32).toInt = 100000 := (by decide); split <;> first | rfl | (exfalso; rename_i hc9; (try simp only [ow_lt, ow_le, ow_eq, true_and, and_true] at hc9 g_6 c_7); omega)), trivial⟩, trivial⟩, hS.F ht9⟩) hS.2.2 dX12_later_39
    · exfalso
      have z0 : (0 : Int32).toInt = 0 := (by decide); have z1 : (1000 : Int32).toInt = 1000 := (by decide); have z2 : (100000 : Int32).toInt = 100000 := (by decide); (try simp only [ow_lt, ow_le, ow_eq, true_and, and_true] at g_6 c_7); omega
set_option maxHeartbeats 4000000 in
set_option maxRecDepth 100000 in
theorem m_left (l : Launch) (G : va_G) (cy : Nat → ClassId) (sz : Nat) (mo : Nat) (h : Nat → Nat) (f : Nat → Nat → Int32) (n : Int32)  : Met l yX12_left (.code yX12_left cX12_left 6 (some .int) :: TBg) ({ frames := 1, cells := 0, slots := 0, locals := 64 }) (va_Pc [.ref mo, .int n] (En G cy (WM cy mo h f) sz)) (va_Qi (fun (r : Int32) (_ : Unit) => r = 0 ∧ True) (fun _ _ => True) (va_A (WM cy mo h f) sz)) 0 0 (va_A (WM cy mo h f) sz) := by
  refine Met.ofW (cc := cX12_left) (maxL := 6) (ret := (some .int)) (by decide) rfl ?_
  intro p e s m args below meth c s₁ B hml hv
  obtain ⟨rfl, hsz, hP, hK, hD0, hN⟩ := hv
  have hx := B.exec
  have hb := B.bytes
  have hr := B.returns
  have hts := atoms_spec (ws := .code yX12_left cX12_left 6 (some .int) :: TBg) B.pre
  have ht : ∀ w ∈ TBg, w.before _ s = true := fun w h => hts w (List.mem_cons_of_mem _ h)
  have hown : s.vm.findClass RX12 = some m.cls := findClass_of_methodNamed B.named
  have hlocks := B.notSynchronized
  subst hsz
  have hD := hD0.self (sz := s.heap.size)
  generalize hAe : va_A (WM cy mo h f) s.heap.size = A at hD ⊢
  have hA : ∀ q : Nat, s.heap.size ≤ q → A q := fun q h => by rw [← hAe]; exact Or.inr h
  have hS : va_S A s.heap s.heap [] := va_S.rf
  have hl := lv_entry ([.ref mo, .int n]) (n := 6) (Nat.le_of_ble_eq_true rfl)
  rw [lg_entry_eq]
  generalize (lg_sl ([.ref mo, .int n]) ++ List.replicate (6 - (lg_sl ([.ref mo, .int n])).length) Slot.unset).toArray = ls at hl ⊢
  have hl : lv_has ls 6 [(0, .ref mo), (1, .int n)] := hl
  refine lv_iconst (v := 0) hx hb dX12_left_0 (by decide) ?_
  refine lv_istore_n (lv' := [(2, .int 0), (0, .ref mo), (1, .int n)]) hx hb dX12_left_1 rfl hl (by decide) rfl (fun ls hl => ?_)
  refine lv_iconst (v := 0) hx hb dX12_left_2 (by decide) ?_
  refine lv_istore_n (lv' := [(3, .int 0), (2, .int 0), (0, .ref mo), (1, .int n)]) hx hb dX12_left_3 rfl hl (by decide) rfl (fun ls hl => ?_)
  refine lv_iload_n hx hb dX12_left_4 rfl (lv_at hl 0 rfl) ?_
  refine lv_aload_n hx hb dX12_left_5 rfl (lv_at hl 2 rfl) ?_
  refine va_get (ci := 12) (v := .ref (h 2)) (C := RX12) (T := TX12) (N := 58) hx hb ht iX12 hown hK hP 0 rfl rfl 11 (by decide) (ht _ k_268) (fun _ h9 => h9) rfl dX12_left_6 ?_
  refine lv_aload_n hx hb dX12_left_9 rfl (lv_at hl 2 rfl) ?_
  refine va_get (ci := 12) (v := .int 0) (C := RX12) (T := TX12) (N := 58) hx hb ht iX12 hown hK hP 0 rfl rfl 29 (by decide) (ht _ k_315) (fun _ h9 => h9) rfl dX12_left_10 ?_
  refine va_iald hx hb hK hP 2 0 rfl rfl (in_lit (by decide +kernel)) dX12_left_13 ?_
  refine ow_top 0 rfl ?_
  refine lv_icmp_ge (tgt := 137) hx hb dX12_left_14 (by decide) (fun _ => ?_) (fun c9 => absurd (by decide) c9)
  refine lv_iload_n hx hb dX12_left_137 rfl (lv_at hl 1 rfl) ?_
  refine W.widen (k := 0) (n := 0) (Nat.le_of_ble_eq_true rfl) (Nat.le_of_ble_eq_true rfl) ?_
  exact W.iret (v := 0) hx hb hr (fun t ht9 hW => ⟨⟨0, (), rfl, ⟨rfl, trivial⟩, trivial⟩, hS.F ht9⟩) hS.2.2 dX12_left_138
set_option maxHeartbeats 4000000 in
set_option maxRecDepth 100000 in
theorem m_next (l : Launch) (G : va_G) (cy : Nat → ClassId) (sz : Nat) (mo : Nat) (h : Nat → Nat) (f : Nat → Nat → Int32) (n : Int32) (n2 : Int32)  : Met l yX12_next (.code yX12_next cX12_next 9 (some .int) :: TBg) ({ frames := 2, cells := 0, slots := 0, locals := 128 }) (va_Pc [.ref mo, .int n, .int n2] (En G cy (WM cy mo h f) sz)) (va_Qi (fun (r : Int32) (_ : Unit) => r = (-1) ∧ True) (fun _ _ => True) (va_A (WM cy mo h f) sz)) 0 0 (va_A (WM cy mo h f) sz) := by
  refine Met.ofW (cc := cX12_next) (maxL := 9) (ret := (some .int)) (by decide) rfl ?_
  intro p e s m args below meth c s₁ B hml hv
  obtain ⟨rfl, hsz, hP, hK, hD0, hN⟩ := hv
  have hx := B.exec
  have hb := B.bytes
  have hr := B.returns
  have hts := atoms_spec (ws := .code yX12_next cX12_next 9 (some .int) :: TBg) B.pre
  have ht : ∀ w ∈ TBg, w.before _ s = true := fun w h => hts w (List.mem_cons_of_mem _ h)
  have hown : s.vm.findClass RX12 = some m.cls := findClass_of_methodNamed B.named
  have hlocks := B.notSynchronized
  subst hsz
  have hD := hD0.self (sz := s.heap.size)
  generalize hAe : va_A (WM cy mo h f) s.heap.size = A at hD ⊢
  have hA : ∀ q : Nat, s.heap.size ≤ q → A q := fun q h => by rw [← hAe]; exact Or.inr h
  have hS : va_S A s.heap s.heap [] := va_S.rf
  have hl := lv_entry ([.ref mo, .int n, .int n2]) (n := 9) (Nat.le_of_ble_eq_true rfl)
  rw [lg_entry_eq]
  generalize (lg_sl ([.ref mo, .int n, .int n2]) ++ List.replicate (9 - (lg_sl ([.ref mo, .int n, .int n2])).length) Slot.unset).toArray = ls at hl ⊢
  have hl : lv_has ls 9 [(0, .ref mo), (1, .int n), (2, .int n2)] := hl
  refine lv_aload_n hx hb dX12_next_0 rfl (lv_at hl 0 rfl) ?_
  refine lv_iload_n hx hb dX12_next_1 rfl (lv_at hl 2 rfl) ?_
  have hFc := fr_new hS hA
  have hPc := hP.sub (ws' := [(mo, .inr (12, [.ref (h 0), .ref (h 1), .int 0, .int 0, .int 0, .int (-1), .int 0, .int 0, .int 0, .int 0, .long 0, .ref (h 2), .ref (h 3), .ref (h 4), .ref (h 5), .ref (h 6), .ref (h 7), .ref (h 8), .ref (h 9), .ref (h 10), .ref (h 11), .ref (h 12), .ref (h 13), .ref (h 14), .ref (h 15), .ref (h 16), .ref (h 17), .ref (h 18), .ref (h 19), .int 0, .int 0, .int 0, .int 0, .int 0, .int 0, .ref (h 20), .ref (h 21), .int 0, .ref (h 22), .ref (h 23), .ref (h 24), .ref (h 25), .ref (h 26), .int 0, .int 0, .ref (h 27), .ref (h 28), .ref (h 29), .ref (h 30), .ref (h 31), .int 0, .int 0, .ref (h 32), .ref (h 33), .ref (h 34), .ref (h 35), .ref (h 36), .ref (h 37)])), ((h 2), .inl (cy 0, 2, .inl (fun _ => 0)))]) [0, 2] rfl
  have hDc := hD.sub (ws' := [(mo, .inr (12, [.ref (h 0), .ref (h 1), .int 0, .int 0, .int 0, .int (-1), .int 0, .int 0, .int 0, .int 0, .long 0, .ref (h 2), .ref (h 3), .ref (h 4), .ref (h 5), .ref (h 6), .ref (h 7), .ref (h 8), .ref (h 9), .ref (h 10), .ref (h 11), .ref (h 12), .ref (h 13), .ref (h 14), .ref (h 15), .ref (h 16), .ref (h 17), .ref (h 18), .ref (h 19), .int 0, .int 0, .int 0, .int 0, .int 0, .int 0, .ref (h 20), .ref (h 21), .int 0, .ref (h 22), .ref (h 23), .ref (h 24), .ref (h 25), .ref (h 26), .int 0, .int 0, .ref (h 27), .ref (h 28), .ref (h 29), .ref (h 30), .ref (h 31), .int 0, .int 0, .ref (h 32), .ref (h 33), .ref (h 34), .ref (h 35), .ref (h 36), .ref (h 37)])), ((h 2), .inl (cy 0, 2, .inl (fun _ => 0)))]) [0, 2] (by decide) rfl
  refine va_calli (va_runV (As := [.int n2]) (rest := []) ⟨hx, hb, hml, hown, ht⟩ (m_leftI l G cy _ mo n2 (h 2) (.ref (h 0)) (.ref (h 1)) (.int 0) (.int 0) (.int 0) (.int (-1)) (.int 0) (.int 0) (.int 0) (.int 0) (.long 0) (.ref (h 3)) (.ref (h 4)) (.ref (h 5)) (.ref (h 6)) (.ref (h 7)) (.ref (h 8)) (.ref (h 9)) (.ref (h 10)) (.ref (h 11)) (.ref (h 12)) (.ref (h 13)) (.ref (h 14)) (.ref (h 15)) (.ref (h 16)) (.ref (h 17)) (.ref (h 18)) (.ref (h 19)) (.int 0) (.int 0) (.int 0) (.int 0) (.int 0) (.ref (h 20)) (.ref (h 21)) (.int 0) (.ref (h 22)) (.ref (h 23)) (.ref (h 24)) (.ref (h 25)) (.ref (h 26)) (.int 0) (.int 0) (.ref (h 27)) (.ref (h 28)) (.ref (h 29)) (.ref (h 30)) (.ref (h 31)) (.int 0) (.int 0) (.ref (h 32)) (.ref (h 33)) (.ref (h 34)) (.ref (h 35)) (.ref (h 36)) (.ref (h 37)) ) (cwV 1 ht (gv k_361 k_362 k_363 k_314 k_360) rfl rfl rfl (by decide +kernel) ⟨Nat.le_of_ble_eq_true rfl, Nat.le_of_ble_eq_true rfl⟩) ⟨En.blind, va_recv hK hP (ci := 12) (q0 := 0) rfl rfl, fun U hU hW => ⟨rfl, En.of hU hW hPc hK hDc hN⟩⟩ rfl rfl hl.1 rfl (lv_room (Nat.le_of_ble_eq_true rfl)) dX12_next_2 ⟨Nat.le_of_ble_eq_true rfl, Nat.le_of_ble_eq_true rfl⟩) hS (fun q _ h => hFc q h) hFc (fun r_2 u_1 t H locs ht9 hvm hw hB hz1 hk1 hS => ?_)
  have hP := fr_keep hP hk1
  obtain rfl : r_2 = 0 := hw.1
  refine lv_istore_n (lv' := [(3, .int 0), (0, .ref mo), (1, .int n), (2, .int n2)]) hx hb dX12_next_5 rfl hl (by decide) rfl (fun ls hl => ?_)
  refine lv_iload_n hx hb dX12_next_6 rfl (lv_at hl 2 rfl) ?_
  refine lv_iconst (v := 0) hx hb dX12_next_7 (by decide) ?_
  refine lv_iconst (v := 2) hx hb dX12_next_8 (by decide) ?_
  have hFc := fr_new hS hA
  have hPc := hP.sub (ws' := []) [] rfl
  have hDc := hD.sub (ws' := []) [] (by decide) rfl
  refine va_calli (va_runS (As := [.int n, .int 0, .int 2]) (rest := []) ⟨hx, hb, hml, hown, ht⟩ (m_isIn l G cy _ n 0 2 ) (va_cwS 3 ht (gs k_317 k_318 k_314 k_316) rfl rfl rfl (by decide +kernel) ⟨Nat.le_of_ble_eq_true rfl, Nat.le_of_ble_eq_true rfl⟩) ⟨En.blind, fun U hU hW => ⟨rfl, En.of hU hW hPc hK hDc hN⟩⟩ rfl rfl hl.1 rfl (lv_room (Nat.le_of_ble_eq_true rfl)) dX12_next_9 ⟨Nat.le_of_ble_eq_true rfl, Nat.le_of_ble_eq_true rfl⟩) hS (fun q _ h => hFc q h) hFc (fun r_4 u_3 t H locs ht9 hvm hw hB hz1 hk1 hS => ?_)
  have hP := fr_keep hP hk1
  have e_5 := hw.1
  refine lv_if_eq (tgt := 19) hx hb dX12_next_12 (by decide) (fun c_6 => ?_) (fun c_6 => ?_)
  · skip
    have g_7 := ow_i0 e_5 c_6
    refine lv_iconst (v := (-1)) hx hb dX12_next_19 (by decide) ?_
    refine W.widen (k := 0) (n := 0) (Nat.le_of_ble_eq_true rfl) (Nat.le_of_ble_eq_true rfl) ?_
    exact W.iret (v := (-1)) hx hb hr (fun t ht9 hW => ⟨⟨(-1), (), rfl, ⟨rfl, trivial⟩, trivial⟩, hS.F ht9⟩) hS.2.2 dX12_next_20
  · skip
    have g_8 := ow_i1 e_5 c_6
    refine lv_iload_n hx hb dX12_next_15 rfl (lv_at hl 0 rfl) ?_
    refine lv_if_ne (tgt := 21) hx hb dX12_next_16 (by decide) (fun c9 => absurd (by decide) c9) (fun _ => ?_)
    refine lv_iconst (v := (-1)) hx hb dX12_next_19 (by decide) ?_
    refine W.widen (k := 0) (n := 0) (Nat.le_of_ble_eq_true rfl) (Nat.le_of_ble_eq_true rfl) ?_
    exact W.iret (v := (-1)) hx hb hr (fun t ht9 hW => ⟨⟨(-1), (), rfl, ⟨rfl, trivial⟩, trivial⟩, hS.F ht9⟩) hS.2.2 dX12_next_20
set_option maxHeartbeats 4000000 in
set_option maxRecDepth 100000 in
theorem m_back (l : Launch) (G : va_G) (cy : Nat → ClassId) (sz : Nat) (mo : Nat) (h : Nat → Nat) (f : Nat → Nat → Int32) (n : Int32) (hbm : ∀ k, k < 3 → f 2 k = -1) : Met l yX12_back (.code yX12_back cX12_back 3 (some .int) :: TBg) ({ frames := 2, cells := 0, slots := 0, locals := 128 }) (va_Pc [.ref mo, .int n] (En G cy (WM cy mo h f) sz)) (va_Qi (fun (r : Int32) (_ : Unit) => r = (-1) ∧ True) (fun _ _ => True) (va_A (WM cy mo h f) sz)) 0 0 (va_A (WM cy mo h f) sz) := by
  refine Met.ofW (cc := cX12_back) (maxL := 3) (ret := (some .int)) (by decide) rfl ?_
  intro p e s m args below meth c s₁ B hml hv
  obtain ⟨rfl, hsz, hP, hK, hD0, hN⟩ := hv
  have hx := B.exec
  have hb := B.bytes
  have hr := B.returns
  have hts := atoms_spec (ws := .code yX12_back cX12_back 3 (some .int) :: TBg) B.pre
  have ht : ∀ w ∈ TBg, w.before _ s = true := fun w h => hts w (List.mem_cons_of_mem _ h)
  have hown : s.vm.findClass RX12 = some m.cls := findClass_of_methodNamed B.named
  have hlocks := B.notSynchronized
  subst hsz
  have hD := hD0.self (sz := s.heap.size)
  generalize hAe : va_A (WM cy mo h f) s.heap.size = A at hD ⊢
  have hA : ∀ q : Nat, s.heap.size ≤ q → A q := fun q h => by rw [← hAe]; exact Or.inr h
  have hS : va_S A s.heap s.heap [] := va_S.rf
  have hl := lv_entry ([.ref mo, .int n]) (n := 3) (Nat.le_of_ble_eq_true rfl)
  rw [lg_entry_eq]
  generalize (lg_sl ([.ref mo, .int n]) ++ List.replicate (3 - (lg_sl ([.ref mo, .int n])).length) Slot.unset).toArray = ls at hl ⊢
  rcases ow_cut n 3 (by decide) with ⟨j, hj, hj2⟩ | hout
  · have hj3 : j = 0 ∨ j = 1 ∨ j = 2 := by omega
    rcases hj3 with rfl | rfl | rfl
    · obtain rfl : n = 0 := hj2
      have hl : lv_has ls 3 [(0, .ref mo), (1, .int 0)] := hl
      refine lv_iload_n hx hb dX12_back_0 rfl (lv_at hl 1 rfl) ?_
      refine lv_iconst (v := 0) hx hb dX12_back_1 (by decide) ?_
      refine lv_iconst (v := 2) hx hb dX12_back_2 (by decide) ?_
      have hFc := fr_new hS hA
      have hPc := hP.sub (ws' := []) [] rfl
      have hDc := hD.sub (ws' := []) [] (by decide) rfl
      refine va_calli (va_runS (As := [.int 0, .int 0, .int 2]) (rest := []) ⟨hx, hb, hml, hown, ht⟩ (m_isIn l G cy _ 0 0 2 ) (va_cwS 3 ht (gs k_317 k_318 k_314 k_316) rfl rfl rfl (by decide +kernel) ⟨Nat.le_of_ble_eq_true rfl, Nat.le_of_ble_eq_true rfl⟩) ⟨En.blind, fun U hU hW => ⟨rfl, En.of hU hW hPc hK hDc hN⟩⟩ rfl rfl hl.1 rfl (lv_room (Nat.le_of_ble_eq_true rfl)) dX12_back_3 ⟨Nat.le_of_ble_eq_true rfl, Nat.le_of_ble_eq_true rfl⟩) hS (fun q _ h => hFc q h) hFc (fun r_2 u_1 t H locs ht9 hvm hw hB hz1 hk1 hS => ?_)
      have hP := fr_keep hP hk1
      have e_3 := hw.1
      obtain rfl : r_2 = 1 := e_3.trans (by decide)
      refine lv_if_eq (tgt := 18) hx hb dX12_back_6 (by decide) (fun c9 => absurd c9 (by decide)) (fun _ => ?_)
      refine lv_aload_n hx hb dX12_back_9 rfl (lv_at hl 0 rfl) ?_
      refine va_get (ci := 12) (v := .ref (h 32)) (C := RX12) (T := TX12) (N := 58) hx hb ht iX12 hown hK hP 0 rfl rfl 52 (by decide) (ht _ k_304) (fun _ h9 => h9) rfl dX12_back_10 ?_
      refine lv_iload_n hx hb dX12_back_13 rfl (lv_at hl 1 rfl) ?_
      refine va_iald hx hb hK hP 11 0 rfl rfl (in_lit (by decide +kernel)) dX12_back_14 ?_
      refine ow_top (-1) (hbm 0 (by decide)) ?_
      refine lv_if_ge (tgt := 20) hx hb dX12_back_15 (by decide) (fun c9 => absurd c9 (by decide)) (fun _ => ?_)
      refine lv_iconst (v := (-1)) hx hb dX12_back_18 (by decide) ?_
      refine W.widen (k := 0) (n := 0) (Nat.le_of_ble_eq_true rfl) (Nat.le_of_ble_eq_true rfl) ?_
      exact W.iret (v := (-1)) hx hb hr (fun t ht9 hW => ⟨⟨(-1), (), rfl, ⟨rfl, trivial⟩, trivial⟩, hS.F ht9⟩) hS.2.2 dX12_back_19
    · obtain rfl : n = 1 := hj2
      have hl : lv_has ls 3 [(0, .ref mo), (1, .int 1)] := hl
      refine lv_iload_n hx hb dX12_back_0 rfl (lv_at hl 1 rfl) ?_
      refine lv_iconst (v := 0) hx hb dX12_back_1 (by decide) ?_
      refine lv_iconst (v := 2) hx hb dX12_back_2 (by decide) ?_
      have hFc := fr_new hS hA
      have hPc := hP.sub (ws' := []) [] rfl
      have hDc := hD.sub (ws' := []) [] (by decide) rfl
      refine va_calli (va_runS (As := [.int 1, .int 0, .int 2]) (rest := []) ⟨hx, hb, hml, hown, ht⟩ (m_isIn l G cy _ 1 0 2 ) (va_cwS 3 ht (gs k_317 k_318 k_314 k_316) rfl rfl rfl (by decide +kernel) ⟨Nat.le_of_ble_eq_true rfl, Nat.le_of_ble_eq_true rfl⟩) ⟨En.blind, fun U hU hW => ⟨rfl, En.of hU hW hPc hK hDc hN⟩⟩ rfl rfl hl.1 rfl (lv_room (Nat.le_of_ble_eq_true rfl)) dX12_back_3 ⟨Nat.le_of_ble_eq_true rfl, Nat.le_of_ble_eq_true rfl⟩) hS (fun q _ h => hFc q h) hFc (fun r_5 u_4 t H locs ht9 hvm hw hB hz1 hk1 hS => ?_)
      have hP := fr_keep hP hk1
      have e_6 := hw.1
      obtain rfl : r_5 = 1 := e_6.trans (by decide)
      refine lv_if_eq (tgt := 18) hx hb dX12_back_6 (by decide) (fun c9 => absurd c9 (by decide)) (fun _ => ?_)
      refine lv_aload_n hx hb dX12_back_9 rfl (lv_at hl 0 rfl) ?_
      refine va_get (ci := 12) (v := .ref (h 32)) (C := RX12) (T := TX12) (N := 58) hx hb ht iX12 hown hK hP 0 rfl rfl 52 (by decide) (ht _ k_304) (fun _ h9 => h9) rfl dX12_back_10 ?_
      refine lv_iload_n hx hb dX12_back_13 rfl (lv_at hl 1 rfl) ?_
      refine va_iald hx hb hK hP 11 0 rfl rfl (in_lit (by decide +kernel)) dX12_back_14 ?_
      refine ow_top (-1) (hbm 1 (by decide)) ?_
      refine lv_if_ge (tgt := 20) hx hb dX12_back_15 (by decide) (fun c9 => absurd c9 (by decide)) (fun _ => ?_)
      refine lv_iconst (v := (-1)) hx hb dX12_back_18 (by decide) ?_
      refine W.widen (k := 0) (n := 0) (Nat.le_of_ble_eq_true rfl) (Nat.le_of_ble_eq_true rfl) ?_
      exact W.iret (v := (-1)) hx hb hr (fun t ht9 hW => ⟨⟨(-1), (), rfl, ⟨rfl, trivial⟩, trivial⟩, hS.F ht9⟩) hS.2.2 dX12_back_19
    · obtain rfl : n = 2 := hj2
      have hl : lv_has ls 3 [(0, .ref mo), (1, .int 2)] := hl
      refine lv_iload_n hx hb dX12_back_0 rfl (lv_at hl 1 rfl) ?_
      refine lv_iconst (v := 0) hx hb dX12_back_1 (by decide) ?_
      refine lv_iconst (v := 2) hx hb dX12_back_2 (by decide) ?_
      have hFc := fr_new hS hA
      have hPc := hP.sub (ws' := []) [] rfl
      have hDc := hD.sub (ws' := []) [] (by decide) rfl
      refine va_calli (va_runS (As := [.int 2, .int 0, .int 2]) (rest := []) ⟨hx, hb, hml, hown, ht⟩ (m_isIn l G cy _ 2 0 2 ) (va_cwS 3 ht (gs k_317 k_318 k_314 k_316) rfl rfl rfl (by decide +kernel) ⟨Nat.le_of_ble_eq_true rfl, Nat.le_of_ble_eq_true rfl⟩) ⟨En.blind, fun U hU hW => ⟨rfl, En.of hU hW hPc hK hDc hN⟩⟩ rfl rfl hl.1 rfl (lv_room (Nat.le_of_ble_eq_true rfl)) dX12_back_3 ⟨Nat.le_of_ble_eq_true rfl, Nat.le_of_ble_eq_true rfl⟩) hS (fun q _ h => hFc q h) hFc (fun r_8 u_7 t H locs ht9 hvm hw hB hz1 hk1 hS => ?_)
      have hP := fr_keep hP hk1
      have e_9 := hw.1
      obtain rfl : r_8 = 1 := e_9.trans (by decide)
      refine lv_if_eq (tgt := 18) hx hb dX12_back_6 (by decide) (fun c9 => absurd c9 (by decide)) (fun _ => ?_)
      refine lv_aload_n hx hb dX12_back_9 rfl (lv_at hl 0 rfl) ?_
      refine va_get (ci := 12) (v := .ref (h 32)) (C := RX12) (T := TX12) (N := 58) hx hb ht iX12 hown hK hP 0 rfl rfl 52 (by decide) (ht _ k_304) (fun _ h9 => h9) rfl dX12_back_10 ?_
      refine lv_iload_n hx hb dX12_back_13 rfl (lv_at hl 1 rfl) ?_
      refine va_iald hx hb hK hP 11 0 rfl rfl (in_lit (by decide +kernel)) dX12_back_14 ?_
      refine ow_top (-1) (hbm 2 (by decide)) ?_
      refine lv_if_ge (tgt := 20) hx hb dX12_back_15 (by decide) (fun c9 => absurd c9 (by decide)) (fun _ => ?_)
      refine lv_iconst (v := (-1)) hx hb dX12_back_18 (by decide) ?_
      refine W.widen (k := 0) (n := 0) (Nat.le_of_ble_eq_true rfl) (Nat.le_of_ble_eq_true rfl) ?_
      exact W.iret (v := (-1)) hx hb hr (fun t ht9 hW => ⟨⟨(-1), (), rfl, ⟨rfl, trivial⟩, trivial⟩, hS.F ht9⟩) hS.2.2 dX12_back_19
  · skip
    have hl : lv_has ls 3 [(0, .ref mo), (1, .int n)] := hl
    refine lv_iload_n hx hb dX12_back_0 rfl (lv_at hl 1 rfl) ?_
    refine lv_iconst (v := 0) hx hb dX12_back_1 (by decide) ?_
    refine lv_iconst (v := 2) hx hb dX12_back_2 (by decide) ?_
    have hFc := fr_new hS hA
    have hPc := hP.sub (ws' := []) [] rfl
    have hDc := hD.sub (ws' := []) [] (by decide) rfl
    refine va_calli (va_runS (As := [.int n, .int 0, .int 2]) (rest := []) ⟨hx, hb, hml, hown, ht⟩ (m_isIn l G cy _ n 0 2 ) (va_cwS 3 ht (gs k_317 k_318 k_314 k_316) rfl rfl rfl (by decide +kernel) ⟨Nat.le_of_ble_eq_true rfl, Nat.le_of_ble_eq_true rfl⟩) ⟨En.blind, fun U hU hW => ⟨rfl, En.of hU hW hPc hK hDc hN⟩⟩ rfl rfl hl.1 rfl (lv_room (Nat.le_of_ble_eq_true rfl)) dX12_back_3 ⟨Nat.le_of_ble_eq_true rfl, Nat.le_of_ble_eq_true rfl⟩) hS (fun q _ h => hFc q h) hFc (fun r_11 u_10 t H locs ht9 hvm hw hB hz1 hk1 hS => ?_)
    have hP := fr_keep hP hk1
    have e_12 := hw.1
    refine lv_if_eq (tgt := 18) hx hb dX12_back_6 (by decide) (fun c_13 => ?_) (fun c_13 => ?_)
    · skip
      have g_14 := ow_i0 e_12 c_13
      refine lv_iconst (v := (-1)) hx hb dX12_back_18 (by decide) ?_
      refine W.widen (k := 0) (n := 0) (Nat.le_of_ble_eq_true rfl) (Nat.le_of_ble_eq_true rfl) ?_
      exact W.iret (v := (-1)) hx hb hr (fun t ht9 hW => ⟨⟨(-1), (), rfl, ⟨rfl, trivial⟩, trivial⟩, hS.F ht9⟩) hS.2.2 dX12_back_19
    · have g_15 := ow_i1 e_12 c_13
      exfalso
      have z0 : (0 : Int32).toInt = 0 := (by decide); have z1 : (2 : Int32).toInt = 2 := (by decide); (try simp only [ow_lt, ow_le, ow_eq, true_and, and_true] at hout g_15); omega
set_option maxHeartbeats 4000000 in
set_option maxRecDepth 100000 in
theorem m_about (l : Launch) (G : va_G) (cy : Nat → ClassId) (sz : Nat) (mo : Nat) (h : Nat → Nat) (f : Nat → Nat → Int32) (n : Int32)  : Met l yX12_about (.code yX12_about cX12_about 2 (some .int) :: TBg) ({ frames := 1, cells := 0, slots := 0, locals := 64 }) (va_Pc [.ref mo, .int n] (En G cy (WM cy mo h f) sz)) (va_Qi (fun (r : Int32) (_ : Unit) => r = (sp_rng 7 n) ∧ True) (fun _ _ => True) (va_A (WM cy mo h f) sz)) 0 0 (va_A (WM cy mo h f) sz) := by
  refine Met.ofW (cc := cX12_about) (maxL := 2) (ret := (some .int)) (by decide) rfl ?_
  intro p e s m args below meth c s₁ B hml hv
  obtain ⟨rfl, hsz, hP, hK, hD0, hN⟩ := hv
  have hx := B.exec
  have hb := B.bytes
  have hr := B.returns
  have hts := atoms_spec (ws := .code yX12_about cX12_about 2 (some .int) :: TBg) B.pre
  have ht : ∀ w ∈ TBg, w.before _ s = true := fun w h => hts w (List.mem_cons_of_mem _ h)
  have hown : s.vm.findClass RX12 = some m.cls := findClass_of_methodNamed B.named
  have hlocks := B.notSynchronized
  subst hsz
  have hD := hD0.self (sz := s.heap.size)
  generalize hAe : va_A (WM cy mo h f) s.heap.size = A at hD ⊢
  have hA : ∀ q : Nat, s.heap.size ≤ q → A q := fun q h => by rw [← hAe]; exact Or.inr h
  have hS : va_S A s.heap s.heap [] := va_S.rf
  have hl := lv_entry ([.ref mo, .int n]) (n := 2) (Nat.le_of_ble_eq_true rfl)
  rw [lg_entry_eq]
  generalize (lg_sl ([.ref mo, .int n]) ++ List.replicate (2 - (lg_sl ([.ref mo, .int n])).length) Slot.unset).toArray = ls at hl ⊢
  rcases ow_cut n 8 (by decide) with ⟨j, hj, hj2⟩ | hout
  · have hj3 : j = 0 ∨ j = 1 ∨ j = 2 ∨ j = 3 ∨ j = 4 ∨ j = 5 ∨ j = 6 ∨ j = 7 := by omega
    rcases hj3 with rfl | rfl | rfl | rfl | rfl | rfl | rfl | rfl
    · obtain rfl : n = 0 := hj2
      have hl : lv_has ls 2 [(0, .ref mo), (1, .int 0)] := hl
      refine lv_iload_n hx hb dX12_about_0 rfl (lv_at hl 1 rfl) ?_
      refine lv_tableIn (tgt := 48) hx hb dX12_about_1 (by decide +kernel) (by decide +kernel) rfl (by decide) ?_
      refine lv_aload_n hx hb dX12_about_48 rfl (lv_at hl 0 rfl) ?_
      refine va_get (ci := 12) (v := .ref (h 2)) (C := RX12) (T := TX12) (N := 58) hx hb ht iX12 hown hK hP 0 rfl rfl 11 (by decide) (ht _ k_268) (fun _ h9 => h9) rfl dX12_about_49 ?_
      refine lv_aload_n hx hb dX12_about_52 rfl (lv_at hl 0 rfl) ?_
      refine va_get (ci := 12) (v := .int 0) (C := RX12) (T := TX12) (N := 58) hx hb ht iX12 hown hK hP 0 rfl rfl 29 (by decide) (ht _ k_315) (fun _ h9 => h9) rfl dX12_about_53 ?_
      refine va_iald hx hb hK hP 2 0 rfl rfl (in_lit (by decide +kernel)) dX12_about_56 ?_
      refine ow_top 0 rfl ?_
      refine W.widen (k := 0) (n := 0) (Nat.le_of_ble_eq_true rfl) (Nat.le_of_ble_eq_true rfl) ?_
      exact W.iret (v := 0) hx hb hr (fun t ht9 hW => ⟨⟨0, (), rfl, ⟨(by decide +kernel), trivial⟩, trivial⟩, hS.F ht9⟩) hS.2.2 dX12_about_57
    · obtain rfl : n = 1 := hj2
      have hl : lv_has ls 2 [(0, .ref mo), (1, .int 1)] := hl
      refine lv_iload_n hx hb dX12_about_0 rfl (lv_at hl 1 rfl) ?_
      refine lv_tableIn (tgt := 58) hx hb dX12_about_1 (by decide +kernel) (by decide +kernel) rfl (by decide) ?_
      refine lv_aload_n hx hb dX12_about_58 rfl (lv_at hl 0 rfl) ?_
      refine va_get (ci := 12) (v := .ref (h 3)) (C := RX12) (T := TX12) (N := 58) hx hb ht iX12 hown hK hP 0 rfl rfl 12 (by decide) (ht _ k_270) (fun _ h9 => h9) rfl dX12_about_59 ?_
      refine lv_aload_n hx hb dX12_about_62 rfl (lv_at hl 0 rfl) ?_
      refine va_get (ci := 12) (v := .int 0) (C := RX12) (T := TX12) (N := 58) hx hb ht iX12 hown hK hP 0 rfl rfl 29 (by decide) (ht _ k_315) (fun _ h9 => h9) rfl dX12_about_63 ?_
      refine va_iald hx hb hK hP 3 0 rfl rfl (in_lit (by decide +kernel)) dX12_about_66 ?_
      refine ow_top 0 rfl ?_
      refine W.widen (k := 0) (n := 0) (Nat.le_of_ble_eq_true rfl) (Nat.le_of_ble_eq_true rfl) ?_
      exact W.iret (v := 0) hx hb hr (fun t ht9 hW => ⟨⟨0, (), rfl, ⟨(by decide +kernel), trivial⟩, trivial⟩, hS.F ht9⟩) hS.2.2 dX12_about_67
    · obtain rfl : n = 2 := hj2
      have hl : lv_has ls 2 [(0, .ref mo), (1, .int 2)] := hl
      refine lv_iload_n hx hb dX12_about_0 rfl (lv_at hl 1 rfl) ?_
      refine lv_tableIn (tgt := 68) hx hb dX12_about_1 (by decide +kernel) (by decide +kernel) rfl (by decide) ?_
      refine lv_aload_n hx hb dX12_about_68 rfl (lv_at hl 0 rfl) ?_
      refine va_get (ci := 12) (v := .int 0) (C := RX12) (T := TX12) (N := 58) hx hb ht iX12 hown hK hP 0 rfl rfl 34 (by decide) (ht _ k_355) (fun _ h9 => h9) rfl dX12_about_69 ?_
      refine W.widen (k := 0) (n := 0) (Nat.le_of_ble_eq_true rfl) (Nat.le_of_ble_eq_true rfl) ?_
      exact W.iret (v := 0) hx hb hr (fun t ht9 hW => ⟨⟨0, (), rfl, ⟨(by decide +kernel), trivial⟩, trivial⟩, hS.F ht9⟩) hS.2.2 dX12_about_72
    · obtain rfl : n = 3 := hj2
      have hl : lv_has ls 2 [(0, .ref mo), (1, .int 3)] := hl
      refine lv_iload_n hx hb dX12_about_0 rfl (lv_at hl 1 rfl) ?_
      refine lv_tableIn (tgt := 73) hx hb dX12_about_1 (by decide +kernel) (by decide +kernel) rfl (by decide) ?_
      refine lv_aload_n hx hb dX12_about_73 rfl (lv_at hl 0 rfl) ?_
      refine va_get (ci := 12) (v := .int 0) (C := RX12) (T := TX12) (N := 58) hx hb ht iX12 hown hK hP 0 rfl rfl 37 (by decide) (ht _ k_356) (fun _ h9 => h9) rfl dX12_about_74 ?_
      refine lv_if_eq (tgt := 84) hx hb dX12_about_77 (by decide) (fun _ => ?_) (fun c9 => absurd (by decide) c9)
      refine lv_iconst (v := 0) hx hb dX12_about_84 (by decide) ?_
      refine W.widen (k := 0) (n := 0) (Nat.le_of_ble_eq_true rfl) (Nat.le_of_ble_eq_true rfl) ?_
      exact W.iret (v := 0) hx hb hr (fun t ht9 hW => ⟨⟨0, (), rfl, ⟨(by decide +kernel), trivial⟩, trivial⟩, hS.F ht9⟩) hS.2.2 dX12_about_85
    · obtain rfl : n = 4 := hj2
      have hl : lv_has ls 2 [(0, .ref mo), (1, .int 4)] := hl
      refine lv_iload_n hx hb dX12_about_0 rfl (lv_at hl 1 rfl) ?_
      refine lv_tableIn (tgt := 86) hx hb dX12_about_1 (by decide +kernel) (by decide +kernel) rfl (by decide) ?_
      refine lv_aload_n hx hb dX12_about_86 rfl (lv_at hl 0 rfl) ?_
      refine va_get (ci := 12) (v := .int 0) (C := RX12) (T := TX12) (N := 58) hx hb ht iX12 hown hK hP 0 rfl rfl 50 (by decide) (ht _ k_357) (fun _ h9 => h9) rfl dX12_about_87 ?_
      refine W.widen (k := 0) (n := 0) (Nat.le_of_ble_eq_true rfl) (Nat.le_of_ble_eq_true rfl) ?_
      exact W.iret (v := 0) hx hb hr (fun t ht9 hW => ⟨⟨0, (), rfl, ⟨(by decide +kernel), trivial⟩, trivial⟩, hS.F ht9⟩) hS.2.2 dX12_about_90
    · obtain rfl : n = 5 := hj2
      have hl : lv_has ls 2 [(0, .ref mo), (1, .int 5)] := hl
      refine lv_iload_n hx hb dX12_about_0 rfl (lv_at hl 1 rfl) ?_
      refine lv_tableIn (tgt := 91) hx hb dX12_about_1 (by decide +kernel) (by decide +kernel) rfl (by decide) ?_
      refine lv_aload_n hx hb dX12_about_91 rfl (lv_at hl 0 rfl) ?_
      refine va_get (ci := 12) (v := .int 0) (C := RX12) (T := TX12) (N := 58) hx hb ht iX12 hown hK hP 0 rfl rfl 51 (by decide) (ht _ k_358) (fun _ h9 => h9) rfl dX12_about_92 ?_
      refine W.widen (k := 0) (n := 0) (Nat.le_of_ble_eq_true rfl) (Nat.le_of_ble_eq_true rfl) ?_
      exact W.iret (v := 0) hx hb hr (fun t ht9 hW => ⟨⟨0, (), rfl, ⟨(by decide +kernel), trivial⟩, trivial⟩, hS.F ht9⟩) hS.2.2 dX12_about_95
    · obtain rfl : n = 6 := hj2
      have hl : lv_has ls 2 [(0, .ref mo), (1, .int 6)] := hl
      refine lv_iload_n hx hb dX12_about_0 rfl (lv_at hl 1 rfl) ?_
      refine lv_tableIn (tgt := 96) hx hb dX12_about_1 (by decide +kernel) (by decide +kernel) rfl (by decide) ?_
      refine lv_aload_n hx hb dX12_about_96 rfl (lv_at hl 0 rfl) ?_
      refine va_get (ci := 12) (v := .int 0) (C := RX12) (T := TX12) (N := 58) hx hb ht iX12 hown hK hP 0 rfl rfl 2 (by decide) (ht _ k_334) (fun _ h9 => h9) rfl dX12_about_97 ?_
      refine W.widen (k := 0) (n := 0) (Nat.le_of_ble_eq_true rfl) (Nat.le_of_ble_eq_true rfl) ?_
      exact W.iret (v := 0) hx hb hr (fun t ht9 hW => ⟨⟨0, (), rfl, ⟨(by decide +kernel), trivial⟩, trivial⟩, hS.F ht9⟩) hS.2.2 dX12_about_100
    · obtain rfl : n = 7 := hj2
      have hl : lv_has ls 2 [(0, .ref mo), (1, .int 7)] := hl
      refine lv_iload_n hx hb dX12_about_0 rfl (lv_at hl 1 rfl) ?_
      refine lv_tableIn (tgt := 101) hx hb dX12_about_1 (by decide +kernel) (by decide +kernel) rfl (by decide) ?_
      refine lv_aload_n hx hb dX12_about_101 rfl (lv_at hl 0 rfl) ?_
      refine va_get (ci := 12) (v := .ref (h 4)) (C := RX12) (T := TX12) (N := 58) hx hb ht iX12 hown hK hP 0 rfl rfl 13 (by decide) (ht _ k_271) (fun _ h9 => h9) rfl dX12_about_102 ?_
      refine lv_aload_n hx hb dX12_about_105 rfl (lv_at hl 0 rfl) ?_
      refine va_get (ci := 12) (v := .int 0) (C := RX12) (T := TX12) (N := 58) hx hb ht iX12 hown hK hP 0 rfl rfl 29 (by decide) (ht _ k_315) (fun _ h9 => h9) rfl dX12_about_106 ?_
      refine va_iald hx hb hK hP 4 0 rfl rfl (in_lit (by decide +kernel)) dX12_about_109 ?_
      refine ow_top 0 rfl ?_
      refine W.widen (k := 0) (n := 0) (Nat.le_of_ble_eq_true rfl) (Nat.le_of_ble_eq_true rfl) ?_
      exact W.iret (v := 0) hx hb hr (fun t ht9 hW => ⟨⟨0, (), rfl, ⟨(by decide +kernel), trivial⟩, trivial⟩, hS.F ht9⟩) hS.2.2 dX12_about_110
  · skip
    have hl : lv_has ls 2 [(0, .ref mo), (1, .int n)] := hl
    refine lv_iload_n hx hb dX12_about_0 rfl (lv_at hl 1 rfl) ?_
    refine lv_tableOut (tgt := 111) hx hb dX12_about_1 (by (try simp only [ow_lt, ow_le, ow_eq, true_and, and_true] at hout); omega) (by decide) ?_
    refine lv_iconst (v := (-1)) hx hb dX12_about_111 (by decide) ?_
    refine W.widen (k := 0) (n := 0) (Nat.le_of_ble_eq_true rfl) (Nat.le_of_ble_eq_true rfl) ?_
    exact W.iret (v := (-1)) hx hb hr (fun t ht9 hW => ⟨⟨(-1), (), rfl, ⟨(by unfold sp_rng; have z0 : (0 : Int32).toInt = 0 := (by decide); have z1 : (7 : Int32).toInt = 7 := (by decide); split <;> first | rfl | (exfalso; rename_i hc9; (try simp only [ow_lt, ow_le, ow_eq, true_and, and_true] at hc9 hout); omega)), trivial⟩, trivial⟩, hS.F ht9⟩) hS.2.2 dX12_about_112
