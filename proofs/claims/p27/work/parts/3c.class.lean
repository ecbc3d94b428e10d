theorem k_453 : (Cond.code yX5_answer cX5_answer 8 (some .int)) ∈ TBg := tb_mem 724 (by decide +kernel) (by decide +kernel)
theorem k_454 : (Cond.methodLink RX9 88 yX5_answer) ∈ TBg := tb_mem 721 (by decide +kernel) (by decide +kernel)
theorem k_455 : (Cond.instanceMethod yX5_answer) ∈ TBg := tb_mem 722 (by decide +kernel) (by decide +kernel)
theorem k_456 : (Cond.selects RX5 yX5_answer yX5_answer) ∈ TBg := tb_mem 723 (by decide +kernel) (by decide +kernel)
theorem k_457 : (Cond.code yX9_ask cX9_ask 5 (some .int)) ∈ TBg := tb_mem 720 (by decide +kernel) (by decide +kernel)
theorem k_458 : (Cond.methodLink RX9 95 yX9_ask) ∈ TBg := tb_mem 717 (by decide +kernel) (by decide +kernel)
theorem k_459 : (Cond.instanceMethod yX9_ask) ∈ TBg := tb_mem 718 (by decide +kernel) (by decide +kernel)
theorem k_460 : (Cond.selects RX9 yX9_ask yX9_ask) ∈ TBg := tb_mem 719 (by decide +kernel) (by decide +kernel)
theorem k_461 : (Cond.initialized RX9) ∈ TBg := tb_mem 85 (by decide +kernel) (by decide +kernel)
theorem k_462 : (Cond.code yX9_opensTo cX9_opensTo 5 (some .boolean)) ∈ TBg := tb_mem 716 (by decide +kernel) (by decide +kernel)
theorem k_463 : (Cond.methodLink RX9 84 yX9_opensTo) ∈ TBg := tb_mem 713 (by decide +kernel) (by decide +kernel)
theorem k_464 : (Cond.instanceMethod yX9_opensTo) ∈ TBg := tb_mem 714 (by decide +kernel) (by decide +kernel)
theorem k_465 : (Cond.selects RX9 yX9_opensTo yX9_opensTo) ∈ TBg := tb_mem 715 (by decide +kernel) (by decide +kernel)
theorem k_466 : (Cond.code yX9_opensNeverWorn cX9_opensNeverWorn 5 (some .int)) ∈ TBg := tb_mem 712 (by decide +kernel) (by decide +kernel)
theorem k_467 : (Cond.methodLink RX9 74 yX9_opensNeverWorn) ∈ TBg := tb_mem 709 (by decide +kernel) (by decide +kernel)
theorem k_468 : (Cond.instanceMethod yX9_opensNeverWorn) ∈ TBg := tb_mem 711 (by decide +kernel) (by decide +kernel)
theorem k_469 : (Cond.selects RX9 yX9_opensNeverWorn yX9_opensNeverWorn) ∈ TBg := tb_mem 24 (by decide +kernel) (by decide +kernel)
theorem k_470 : (Cond.code yX2_hearAll cX2_hearAll 6 none) ∈ TBg := tb_mem 685 (by decide +kernel) (by decide +kernel)
theorem k_471 : (Cond.methodLink RX9 70 yX2_hearAll) ∈ TBg := tb_mem 682 (by decide +kernel) (by decide +kernel)
theorem k_472 : (Cond.instanceMethod yX2_hearAll) ∈ TBg := tb_mem 683 (by decide +kernel) (by decide +kernel)
theorem k_473 : (Cond.selects RX2 yX2_hearAll yX2_hearAll) ∈ TBg := tb_mem 684 (by decide +kernel) (by decide +kernel)
theorem k_474 : (Cond.code yX9_isIn cX9_isIn 5 (some .boolean)) ∈ TBg := tb_mem 824 (by decide +kernel) (by decide +kernel)
theorem k_475 : (Cond.methodLink RX9 99 yX9_isIn) ∈ TBg := tb_mem 821 (by decide +kernel) (by decide +kernel)
theorem k_476 : (Cond.instanceMethod yX9_isIn) ∈ TBg := tb_mem 822 (by decide +kernel) (by decide +kernel)
theorem k_477 : (Cond.selects RX9 yX9_isIn yX9_isIn) ∈ TBg := tb_mem 823 (by decide +kernel) (by decide +kernel)
theorem k_478 : (Cond.code yX10_counts cX10_counts 4 (some .boolean)) ∈ TBg := tb_mem 973 (by decide +kernel) (by decide +kernel)
theorem k_479 : (Cond.methodLink RX10 37 yX10_counts) ∈ TBg := tb_mem 970 (by decide +kernel) (by decide +kernel)
theorem k_480 : (Cond.instanceMethod yX10_counts) ∈ TBg := tb_mem 972 (by decide +kernel) (by decide +kernel)
theorem k_481 : (Cond.selects RX10 yX10_counts yX10_counts) ∈ TBg := tb_mem 30 (by decide +kernel) (by decide +kernel)
theorem k_482 : (Cond.initialized RX10) ∈ TBg := tb_mem 92 (by decide +kernel) (by decide +kernel)
theorem k_483 : (Cond.code yX9_hasLock cX9_hasLock 2 (some .boolean)) ∈ TBg := tb_mem 803 (by decide +kernel) (by decide +kernel)
theorem k_484 : (Cond.methodLink RX10 41 yX9_hasLock) ∈ TBg := tb_mem 974 (by decide +kernel) (by decide +kernel)
theorem k_485 : (Cond.instanceMethod yX9_hasLock) ∈ TBg := tb_mem 801 (by decide +kernel) (by decide +kernel)
theorem k_486 : (Cond.selects RX9 yX9_hasLock yX9_hasLock) ∈ TBg := tb_mem 802 (by decide +kernel) (by decide +kernel)
theorem k_487 : (Cond.code yX4_opensToldBits cX4_opensToldBits 2 (some .int)) ∈ TBg := tb_mem 978 (by decide +kernel) (by decide +kernel)
theorem k_488 : (Cond.methodLink RX10 49 yX4_opensToldBits) ∈ TBg := tb_mem 975 (by decide +kernel) (by decide +kernel)
theorem k_489 : (Cond.instanceMethod yX4_opensToldBits) ∈ TBg := tb_mem 976 (by decide +kernel) (by decide +kernel)
theorem k_490 : (Cond.selects RX4 yX4_opensToldBits yX4_opensToldBits) ∈ TBg := tb_mem 977 (by decide +kernel) (by decide +kernel)
theorem dX9_clear_0 : decode cX9_clear 0 = .ok (.aload_n 0, 1) := by decide +kernel
theorem dX9_clear_1 : decode cX9_clear 1 = .ok (.iconst 0, 1) := by decide +kernel
theorem dX9_clear_2 : decode cX9_clear 2 = .ok (.putfield 49, 3) := by decide +kernel
theorem dX9_clear_5 : decode cX9_clear 5 = .ok (.aload_n 0, 1) := by decide +kernel
theorem dX9_clear_6 : decode cX9_clear 6 = .ok (.iconst 0, 1) := by decide +kernel
theorem dX9_clear_7 : decode cX9_clear 7 = .ok (.putfield 53, 3) := by decide +kernel
theorem dX9_clear_10 : decode cX9_clear 10 = .ok (.aload_n 0, 1) := by decide +kernel
theorem dX9_clear_11 : decode cX9_clear 11 = .ok (.iconst 0, 1) := by decide +kernel
theorem dX9_clear_12 : decode cX9_clear 12 = .ok (.putfield 56, 3) := by decide +kernel
theorem dX9_clear_15 : decode cX9_clear 15 = .ok (.aload_n 0, 1) := by decide +kernel
theorem dX9_clear_16 : decode cX9_clear 16 = .ok (.getfield 36, 3) := by decide +kernel
theorem dX9_clear_19 : decode cX9_clear 19 = .ok (.iconst 0, 1) := by decide +kernel
theorem dX9_clear_20 : decode cX9_clear 20 = .ok (.putfield 59, 3) := by decide +kernel
theorem dX9_clear_23 : decode cX9_clear 23 = .ok (.iconst 0, 1) := by decide +kernel
theorem dX9_clear_24 : decode cX9_clear 24 = .ok (.istore_n 1, 1) := by decide +kernel
theorem dX9_clear_25 : decode cX9_clear 25 = .ok (.iload_n 1, 1) := by decide +kernel
theorem dX9_clear_26 : decode cX9_clear 26 = .ok (.aload_n 0, 1) := by decide +kernel
theorem dX9_clear_27 : decode cX9_clear 27 = .ok (.getfield 40, 3) := by decide +kernel
theorem dX9_clear_30 : decode cX9_clear 30 = .ok (.arraylength, 1) := by decide +kernel
theorem dX9_clear_31 : decode cX9_clear 31 = .ok (.if_icmp .ge 16, 3) := by decide +kernel
theorem dX9_clear_47 : decode cX9_clear 47 = .ok (.return_, 1) := by decide +kernel
theorem dX9_clear_34 : decode cX9_clear 34 = .ok (.aload_n 0, 1) := by decide +kernel
theorem dX9_clear_35 : decode cX9_clear 35 = .ok (.getfield 40, 3) := by decide +kernel
theorem dX9_clear_38 : decode cX9_clear 38 = .ok (.iload_n 1, 1) := by decide +kernel
theorem dX9_clear_39 : decode cX9_clear 39 = .ok (.iconst 0, 1) := by decide +kernel
theorem dX9_clear_40 : decode cX9_clear 40 = .ok (.bastore, 1) := by decide +kernel
theorem dX9_clear_41 : decode cX9_clear 41 = .ok (.iinc 1 1, 3) := by decide +kernel
theorem dX9_clear_44 : decode cX9_clear 44 = .ok (.goto (-19), 3) := by decide +kernel
theorem dX9_hasTune_0 : decode cX9_hasTune 0 = .ok (.iload_n 1, 1) := by decide +kernel
theorem dX9_hasTune_1 : decode cX9_hasTune 1 = .ok (.ifCond .lt 15, 3) := by decide +kernel
theorem dX9_hasTune_16 : decode cX9_hasTune 16 = .ok (.iconst 0, 1) := by decide +kernel
theorem dX9_hasTune_17 : decode cX9_hasTune 17 = .ok (.ireturn, 1) := by decide +kernel
theorem dX9_hasTune_4 : decode cX9_hasTune 4 = .ok (.iload_n 1, 1) := by decide +kernel
theorem dX9_hasTune_5 : decode cX9_hasTune 5 = .ok (.aload_n 0, 1) := by decide +kernel
theorem dX9_hasTune_6 : decode cX9_hasTune 6 = .ok (.getfield 49, 3) := by decide +kernel
theorem dX9_hasTune_9 : decode cX9_hasTune 9 = .ok (.if_icmp .ge 7, 3) := by decide +kernel
theorem dX9_hasTune_12 : decode cX9_hasTune 12 = .ok (.iconst 1, 1) := by decide +kernel
theorem dX9_hasTune_13 : decode cX9_hasTune 13 = .ok (.goto 4, 3) := by decide +kernel
theorem dX9_hasLock_0 : decode cX9_hasLock 0 = .ok (.iload_n 1, 1) := by decide +kernel
theorem dX9_hasLock_1 : decode cX9_hasLock 1 = .ok (.ifCond .lt 15, 3) := by decide +kernel
theorem dX9_hasLock_16 : decode cX9_hasLock 16 = .ok (.iconst 0, 1) := by decide +kernel
theorem dX9_hasLock_17 : decode cX9_hasLock 17 = .ok (.ireturn, 1) := by decide +kernel
theorem dX9_hasLock_4 : decode cX9_hasLock 4 = .ok (.iload_n 1, 1) := by decide +kernel
theorem dX9_hasLock_5 : decode cX9_hasLock 5 = .ok (.aload_n 0, 1) := by decide +kernel
theorem dX9_hasLock_6 : decode cX9_hasLock 6 = .ok (.getfield 53, 3) := by decide +kernel
theorem dX9_hasLock_9 : decode cX9_hasLock 9 = .ok (.if_icmp .ge 7, 3) := by decide +kernel
theorem dX9_hasLock_12 : decode cX9_hasLock 12 = .ok (.iconst 1, 1) := by decide +kernel
theorem dX9_hasLock_13 : decode cX9_hasLock 13 = .ok (.goto 4, 3) := by decide +kernel
theorem dX9_tuneNamed_0 : decode cX9_tuneNamed 0 = .ok (.iconst 0, 1) := by decide +kernel
theorem dX9_tuneNamed_1 : decode cX9_tuneNamed 1 = .ok (.istore_n 3, 1) := by decide +kernel
theorem dX9_tuneNamed_2 : decode cX9_tuneNamed 2 = .ok (.iload_n 3, 1) := by decide +kernel
theorem dX9_tuneNamed_3 : decode cX9_tuneNamed 3 = .ok (.aload_n 0, 1) := by decide +kernel
theorem dX9_tuneNamed_4 : decode cX9_tuneNamed 4 = .ok (.getfield 49, 3) := by decide +kernel
theorem dX9_tuneNamed_7 : decode cX9_tuneNamed 7 = .ok (.if_icmp .ge 22, 3) := by decide +kernel
theorem dX9_tuneNamed_29 : decode cX9_tuneNamed 29 = .ok (.iconst (-1), 1) := by decide +kernel
theorem dX9_tuneNamed_30 : decode cX9_tuneNamed 30 = .ok (.ireturn, 1) := by decide +kernel
theorem dX9_tuneNamed_10 : decode cX9_tuneNamed 10 = .ok (.aload_n 0, 1) := by decide +kernel
theorem dX9_tuneNamed_11 : decode cX9_tuneNamed 11 = .ok (.getfield 17, 3) := by decide +kernel
theorem dX9_tuneNamed_14 : decode cX9_tuneNamed 14 = .ok (.iload_n 3, 1) := by decide +kernel
theorem dX9_tuneNamed_15 : decode cX9_tuneNamed 15 = .ok (.laload, 1) := by decide +kernel
theorem dX9_tuneNamed_16 : decode cX9_tuneNamed 16 = .ok (.lload_n 1, 1) := by decide +kernel
theorem dX9_tuneNamed_17 : decode cX9_tuneNamed 17 = .ok (.lcmp, 1) := by decide +kernel
theorem dX9_tuneNamed_18 : decode cX9_tuneNamed 18 = .ok (.ifCond .ne 5, 3) := by decide +kernel
theorem dX9_tuneNamed_23 : decode cX9_tuneNamed 23 = .ok (.iinc 3 1, 3) := by decide +kernel
theorem dX9_tuneNamed_26 : decode cX9_tuneNamed 26 = .ok (.goto (-24), 3) := by decide +kernel
theorem dX9_tuneNamed_21 : decode cX9_tuneNamed 21 = .ok (.iload_n 3, 1) := by decide +kernel
theorem dX9_tuneNamed_22 : decode cX9_tuneNamed 22 = .ok (.ireturn, 1) := by decide +kernel
theorem dX9_hasLockNamed_0 : decode cX9_hasLockNamed 0 = .ok (.iconst 0, 1) := by decide +kernel
theorem dX9_hasLockNamed_1 : decode cX9_hasLockNamed 1 = .ok (.istore_n 3, 1) := by decide +kernel
theorem dX9_hasLockNamed_2 : decode cX9_hasLockNamed 2 = .ok (.iload_n 3, 1) := by decide +kernel
theorem dX9_hasLockNamed_3 : decode cX9_hasLockNamed 3 = .ok (.aload_n 0, 1) := by decide +kernel
theorem dX9_hasLockNamed_4 : decode cX9_hasLockNamed 4 = .ok (.getfield 53, 3) := by decide +kernel
theorem dX9_hasLockNamed_7 : decode cX9_hasLockNamed 7 = .ok (.if_icmp .ge 25, 3) := by decide +kernel
theorem dX9_hasLockNamed_32 : decode cX9_hasLockNamed 32 = .ok (.iconst 0, 1) := by decide +kernel
theorem dX9_hasLockNamed_33 : decode cX9_hasLockNamed 33 = .ok (.ireturn, 1) := by decide +kernel
theorem dX9_hasLockNamed_10 : decode cX9_hasLockNamed 10 = .ok (.aload_n 0, 1) := by decide +kernel
theorem dX9_hasLockNamed_11 : decode cX9_hasLockNamed 11 = .ok (.getfield 29, 3) := by decide +kernel
theorem dX9_hasLockNamed_14 : decode cX9_hasLockNamed 14 = .ok (.iload_n 3, 1) := by decide +kernel
theorem dX9_hasLockNamed_15 : decode cX9_hasLockNamed 15 = .ok (.aaload, 1) := by decide +kernel
theorem dX9_hasLockNamed_16 : decode cX9_hasLockNamed 16 = .ok (.getfield 66, 3) := by decide +kernel
theorem dX9_hasLockNamed_19 : decode cX9_hasLockNamed 19 = .ok (.lload_n 1, 1) := by decide +kernel
theorem dX9_hasLockNamed_20 : decode cX9_hasLockNamed 20 = .ok (.lcmp, 1) := by decide +kernel
theorem dX9_hasLockNamed_21 : decode cX9_hasLockNamed 21 = .ok (.ifCond .ne 5, 3) := by decide +kernel
theorem dX9_hasLockNamed_26 : decode cX9_hasLockNamed 26 = .ok (.iinc 3 1, 3) := by decide +kernel
theorem dX9_hasLockNamed_29 : decode cX9_hasLockNamed 29 = .ok (.goto (-27), 3) := by decide +kernel
theorem dX9_hasLockNamed_24 : decode cX9_hasLockNamed 24 = .ok (.iconst 1, 1) := by decide +kernel
theorem dX9_hasLockNamed_25 : decode cX9_hasLockNamed 25 = .ok (.ireturn, 1) := by decide +kernel
theorem dX9_ask_0 : decode cX9_ask 0 = .ok (.aload_n 0, 1) := by decide +kernel
theorem dX9_ask_1 : decode cX9_ask 1 = .ok (.getfield 36, 3) := by decide +kernel
theorem dX9_ask_4 : decode cX9_ask 4 = .ok (.aload_n 0, 1) := by decide +kernel
theorem dX9_ask_5 : decode cX9_ask 5 = .ok (.getfield 29, 3) := by decide +kernel
theorem dX9_ask_8 : decode cX9_ask 8 = .ok (.iload_n 1, 1) := by decide +kernel
theorem dX9_ask_9 : decode cX9_ask 9 = .ok (.aaload, 1) := by decide +kernel
theorem dX9_ask_10 : decode cX9_ask 10 = .ok (.aload_n 2, 1) := by decide +kernel
theorem dX9_ask_11 : decode cX9_ask 11 = .ok (.iload_n 3, 1) := by decide +kernel
theorem dX9_ask_12 : decode cX9_ask 12 = .ok (.iload 4, 2) := by decide +kernel
theorem dX9_ask_14 : decode cX9_ask 14 = .ok (.invokevirtual 88, 3) := by decide +kernel
theorem dX9_ask_17 : decode cX9_ask 17 = .ok (.ireturn, 1) := by decide +kernel
theorem dX9_opensTo_0 : decode cX9_opensTo 0 = .ok (.aload_n 2, 1) := by decide +kernel
theorem dX9_opensTo_1 : decode cX9_opensTo 1 = .ok (.getfield 92, 3) := by decide +kernel
theorem dX9_opensTo_4 : decode cX9_opensTo 4 = .ok (.ifCond .le 19, 3) := by decide +kernel
theorem dX9_opensTo_23 : decode cX9_opensTo 23 = .ok (.iconst 0, 1) := by decide +kernel
theorem dX9_opensTo_24 : decode cX9_opensTo 24 = .ok (.ireturn, 1) := by decide +kernel
theorem dX9_opensTo_7 : decode cX9_opensTo 7 = .ok (.aload_n 0, 1) := by decide +kernel
theorem dX9_opensTo_8 : decode cX9_opensTo 8 = .ok (.iload_n 1, 1) := by decide +kernel
theorem dX9_opensTo_9 : decode cX9_opensTo 9 = .ok (.aload_n 2, 1) := by decide +kernel
theorem dX9_opensTo_10 : decode cX9_opensTo 10 = .ok (.iload_n 3, 1) := by decide +kernel
theorem dX9_opensTo_11 : decode cX9_opensTo 11 = .ok (.iload 4, 2) := by decide +kernel
theorem dX9_opensTo_13 : decode cX9_opensTo 13 = .ok (.invokevirtual 95, 3) := by decide +kernel
theorem dX9_opensTo_16 : decode cX9_opensTo 16 = .ok (.ifCond .eq 7, 3) := by decide +kernel
theorem dX9_opensTo_19 : decode cX9_opensTo 19 = .ok (.iconst 1, 1) := by decide +kernel
theorem dX9_opensTo_20 : decode cX9_opensTo 20 = .ok (.goto 4, 3) := by decide +kernel
theorem dX9_opensNeverWorn_0 : decode cX9_opensNeverWorn 0 = .ok (.iconst 0, 1) := by decide +kernel
theorem dX9_opensNeverWorn_1 : decode cX9_opensNeverWorn 1 = .ok (.istore_n 3, 1) := by decide +kernel
theorem dX9_opensNeverWorn_2 : decode cX9_opensNeverWorn 2 = .ok (.iconst 0, 1) := by decide +kernel
theorem dX9_opensNeverWorn_3 : decode cX9_opensNeverWorn 3 = .ok (.istore 4, 2) := by decide +kernel
theorem dX9_opensNeverWorn_5 : decode cX9_opensNeverWorn 5 = .ok (.iload 4, 2) := by decide +kernel
theorem dX9_opensNeverWorn_7 : decode cX9_opensNeverWorn 7 = .ok (.aload_n 0, 1) := by decide +kernel
theorem dX9_opensNeverWorn_8 : decode cX9_opensNeverWorn 8 = .ok (.getfield 49, 3) := by decide +kernel
theorem dX9_opensNeverWorn_11 : decode cX9_opensNeverWorn 11 = .ok (.if_icmp .ge 33, 3) := by decide +kernel
theorem dX9_opensNeverWorn_44 : decode cX9_opensNeverWorn 44 = .ok (.iload_n 3, 1) := by decide +kernel
theorem dX9_opensNeverWorn_45 : decode cX9_opensNeverWorn 45 = .ok (.ireturn, 1) := by decide +kernel
theorem dX9_opensNeverWorn_14 : decode cX9_opensNeverWorn 14 = .ok (.aload_n 0, 1) := by decide +kernel
theorem dX9_opensNeverWorn_15 : decode cX9_opensNeverWorn 15 = .ok (.iload_n 1, 1) := by decide +kernel
theorem dX9_opensNeverWorn_16 : decode cX9_opensNeverWorn 16 = .ok (.aload_n 0, 1) := by decide +kernel
theorem dX9_opensNeverWorn_17 : decode cX9_opensNeverWorn 17 = .ok (.getfield 23, 3) := by decide +kernel
theorem dX9_opensNeverWorn_20 : decode cX9_opensNeverWorn 20 = .ok (.iload 4, 2) := by decide +kernel
theorem dX9_opensNeverWorn_22 : decode cX9_opensNeverWorn 22 = .ok (.aaload, 1) := by decide +kernel
theorem dX9_opensNeverWorn_23 : decode cX9_opensNeverWorn 23 = .ok (.iload_n 2, 1) := by decide +kernel
theorem dX9_opensNeverWorn_24 : decode cX9_opensNeverWorn 24 = .ok (.iconst 0, 1) := by decide +kernel
theorem dX9_opensNeverWorn_25 : decode cX9_opensNeverWorn 25 = .ok (.invokevirtual 84, 3) := by decide +kernel
theorem dX9_opensNeverWorn_28 : decode cX9_opensNeverWorn 28 = .ok (.ifCond .eq 10, 3) := by decide +kernel
theorem dX9_opensNeverWorn_38 : decode cX9_opensNeverWorn 38 = .ok (.iinc 4 1, 3) := by decide +kernel
theorem dX9_opensNeverWorn_41 : decode cX9_opensNeverWorn 41 = .ok (.goto (-36), 3) := by decide +kernel
theorem dX9_opensNeverWorn_31 : decode cX9_opensNeverWorn 31 = .ok (.iload_n 3, 1) := by decide +kernel
theorem dX9_opensNeverWorn_32 : decode cX9_opensNeverWorn 32 = .ok (.iconst 1, 1) := by decide +kernel
theorem dX9_opensNeverWorn_33 : decode cX9_opensNeverWorn 33 = .ok (.iload 4, 2) := by decide +kernel
theorem dX9_opensNeverWorn_35 : decode cX9_opensNeverWorn 35 = .ok (.ishl, 1) := by decide +kernel
theorem dX9_opensNeverWorn_36 : decode cX9_opensNeverWorn 36 = .ok (.ior, 1) := by decide +kernel
theorem dX9_opensNeverWorn_37 : decode cX9_opensNeverWorn 37 = .ok (.istore_n 3, 1) := by decide +kernel
theorem dX9_prepare_0 : decode cX9_prepare 0 = .ok (.iconst 0, 1) := by decide +kernel
theorem dX9_prepare_1 : decode cX9_prepare 1 = .ok (.istore_n 1, 1) := by decide +kernel
theorem dX9_prepare_2 : decode cX9_prepare 2 = .ok (.iload_n 1, 1) := by decide +kernel
theorem dX9_prepare_3 : decode cX9_prepare 3 = .ok (.aload_n 0, 1) := by decide +kernel
theorem dX9_prepare_4 : decode cX9_prepare 4 = .ok (.getfield 49, 3) := by decide +kernel
theorem dX9_prepare_7 : decode cX9_prepare 7 = .ok (.if_icmp .ge 25, 3) := by decide +kernel
theorem dX9_prepare_32 : decode cX9_prepare 32 = .ok (.iconst 0, 1) := by decide +kernel
theorem dX9_prepare_33 : decode cX9_prepare 33 = .ok (.istore_n 1, 1) := by decide +kernel
theorem dX9_prepare_34 : decode cX9_prepare 34 = .ok (.iload_n 1, 1) := by decide +kernel
theorem dX9_prepare_35 : decode cX9_prepare 35 = .ok (.aload_n 0, 1) := by decide +kernel
theorem dX9_prepare_36 : decode cX9_prepare 36 = .ok (.getfield 53, 3) := by decide +kernel
theorem dX9_prepare_39 : decode cX9_prepare 39 = .ok (.if_icmp .ge 39, 3) := by decide +kernel
theorem dX9_prepare_78 : decode cX9_prepare 78 = .ok (.return_, 1) := by decide +kernel
theorem dX9_prepare_42 : decode cX9_prepare 42 = .ok (.aload_n 0, 1) := by decide +kernel
theorem dX9_prepare_43 : decode cX9_prepare 43 = .ok (.getfield 29, 3) := by decide +kernel
theorem dX9_prepare_46 : decode cX9_prepare 46 = .ok (.iload_n 1, 1) := by decide +kernel
theorem dX9_prepare_47 : decode cX9_prepare 47 = .ok (.aaload, 1) := by decide +kernel
theorem dX9_prepare_48 : decode cX9_prepare 48 = .ok (.aload_n 0, 1) := by decide +kernel
theorem dX9_prepare_49 : decode cX9_prepare 49 = .ok (.iload_n 1, 1) := by decide +kernel
theorem dX9_prepare_50 : decode cX9_prepare 50 = .ok (.iconst 0, 1) := by decide +kernel
theorem dX9_prepare_51 : decode cX9_prepare 51 = .ok (.invokevirtual 74, 3) := by decide +kernel
theorem dX9_prepare_54 : decode cX9_prepare 54 = .ok (.putfield 78, 3) := by decide +kernel
theorem dX9_prepare_57 : decode cX9_prepare 57 = .ok (.aload_n 0, 1) := by decide +kernel
theorem dX9_prepare_58 : decode cX9_prepare 58 = .ok (.getfield 29, 3) := by decide +kernel
theorem dX9_prepare_61 : decode cX9_prepare 61 = .ok (.iload_n 1, 1) := by decide +kernel
theorem dX9_prepare_62 : decode cX9_prepare 62 = .ok (.aaload, 1) := by decide +kernel
theorem dX9_prepare_63 : decode cX9_prepare 63 = .ok (.aload_n 0, 1) := by decide +kernel
theorem dX9_prepare_64 : decode cX9_prepare 64 = .ok (.iload_n 1, 1) := by decide +kernel
theorem dX9_prepare_65 : decode cX9_prepare 65 = .ok (.iconst 1, 1) := by decide +kernel
theorem dX9_prepare_66 : decode cX9_prepare 66 = .ok (.invokevirtual 74, 3) := by decide +kernel
theorem dX9_prepare_69 : decode cX9_prepare 69 = .ok (.putfield 81, 3) := by decide +kernel
theorem dX9_prepare_72 : decode cX9_prepare 72 = .ok (.iinc 1 1, 3) := by decide +kernel
theorem dX9_prepare_75 : decode cX9_prepare 75 = .ok (.goto (-41), 3) := by decide +kernel
theorem dX9_prepare_10 : decode cX9_prepare 10 = .ok (.aload_n 0, 1) := by decide +kernel
theorem dX9_prepare_11 : decode cX9_prepare 11 = .ok (.getfield 23, 3) := by decide +kernel
theorem dX9_prepare_14 : decode cX9_prepare 14 = .ok (.iload_n 1, 1) := by decide +kernel
theorem dX9_prepare_15 : decode cX9_prepare 15 = .ok (.aaload, 1) := by decide +kernel
theorem dX9_prepare_16 : decode cX9_prepare 16 = .ok (.aload_n 0, 1) := by decide +kernel
theorem dX9_prepare_17 : decode cX9_prepare 17 = .ok (.getfield 11, 3) := by decide +kernel
theorem dX9_prepare_20 : decode cX9_prepare 20 = .ok (.iload_n 1, 1) := by decide +kernel
theorem dX9_prepare_21 : decode cX9_prepare 21 = .ok (.aaload, 1) := by decide +kernel
theorem dX9_prepare_22 : decode cX9_prepare 22 = .ok (.aload_n 0, 1) := by decide +kernel
theorem dX9_prepare_23 : decode cX9_prepare 23 = .ok (.invokevirtual 70, 3) := by decide +kernel
theorem dX9_prepare_26 : decode cX9_prepare 26 = .ok (.iinc 1 1, 3) := by decide +kernel
theorem dX9_prepare_29 : decode cX9_prepare 29 = .ok (.goto (-27), 3) := by decide +kernel
theorem dX9_isIn_0 : decode cX9_isIn 0 = .ok (.aload_n 0, 1) := by decide +kernel
theorem dX9_isIn_1 : decode cX9_isIn 1 = .ok (.getfield 23, 3) := by decide +kernel
theorem dX9_isIn_4 : decode cX9_isIn 4 = .ok (.iload_n 2, 1) := by decide +kernel
theorem dX9_isIn_5 : decode cX9_isIn 5 = .ok (.aaload, 1) := by decide +kernel
theorem dX9_isIn_6 : decode cX9_isIn 6 = .ok (.getfield 103, 3) := by decide +kernel
theorem dX9_isIn_9 : decode cX9_isIn 9 = .ok (.iload_n 1, 1) := by decide +kernel
theorem dX9_isIn_10 : decode cX9_isIn 10 = .ok (.iaload, 1) := by decide +kernel
theorem dX9_isIn_11 : decode cX9_isIn 11 = .ok (.istore 4, 2) := by decide +kernel
theorem dX9_isIn_13 : decode cX9_isIn 13 = .ok (.iload 4, 2) := by decide +kernel
theorem dX9_isIn_15 : decode cX9_isIn 15 = .ok (.iconst (-1), 1) := by decide +kernel
theorem dX9_isIn_16 : decode cX9_isIn 16 = .ok (.if_icmp .eq 13, 3) := by decide +kernel
theorem dX9_isIn_29 : decode cX9_isIn 29 = .ok (.iconst 0, 1) := by decide +kernel
theorem dX9_isIn_30 : decode cX9_isIn 30 = .ok (.ireturn, 1) := by decide +kernel
theorem dX9_isIn_19 : decode cX9_isIn 19 = .ok (.iload 4, 2) := by decide +kernel
theorem dX9_isIn_21 : decode cX9_isIn 21 = .ok (.iload_n 3, 1) := by decide +kernel
theorem dX9_isIn_22 : decode cX9_isIn 22 = .ok (.if_icmp .gt 7, 3) := by decide +kernel
theorem dX9_isIn_25 : decode cX9_isIn 25 = .ok (.iconst 1, 1) := by decide +kernel
theorem dX9_isIn_26 : decode cX9_isIn 26 = .ok (.goto 4, 3) := by decide +kernel
theorem dX9_isNear_0 : decode cX9_isNear 0 = .ok (.aload_n 0, 1) := by decide +kernel
theorem dX9_isNear_1 : decode cX9_isNear 1 = .ok (.iload_n 1, 1) := by decide +kernel
theorem dX9_isNear_2 : decode cX9_isNear 2 = .ok (.iload_n 2, 1) := by decide +kernel
theorem dX9_isNear_3 : decode cX9_isNear 3 = .ok (.iload_n 3, 1) := by decide +kernel
theorem dX9_isNear_4 : decode cX9_isNear 4 = .ok (.invokevirtual 99, 3) := by decide +kernel
theorem dX9_isNear_7 : decode cX9_isNear 7 = .ok (.ifCond .ne 13, 3) := by decide +kernel
theorem dX9_isNear_20 : decode cX9_isNear 20 = .ok (.iconst 1, 1) := by decide +kernel
theorem dX9_isNear_21 : decode cX9_isNear 21 = .ok (.goto 4, 3) := by decide +kernel
theorem dX9_isNear_25 : decode cX9_isNear 25 = .ok (.ireturn, 1) := by decide +kernel
theorem dX9_isNear_10 : decode cX9_isNear 10 = .ok (.aload_n 0, 1) := by decide +kernel
theorem dX9_isNear_11 : decode cX9_isNear 11 = .ok (.iload_n 2, 1) := by decide +kernel
theorem dX9_isNear_12 : decode cX9_isNear 12 = .ok (.iload_n 1, 1) := by decide +kernel
theorem dX9_isNear_13 : decode cX9_isNear 13 = .ok (.iload_n 3, 1) := by decide +kernel
theorem dX9_isNear_14 : decode cX9_isNear 14 = .ok (.invokevirtual 99, 3) := by decide +kernel
theorem dX9_isNear_17 : decode cX9_isNear 17 = .ok (.ifCond .eq 7, 3) := by decide +kernel
theorem dX9_isNear_24 : decode cX9_isNear 24 = .ok (.iconst 0, 1) := by decide +kernel
theorem dX10_clear_0 : decode cX10_clear 0 = .ok (.aload_n 0, 1) := by decide +kernel
theorem dX10_clear_1 : decode cX10_clear 1 = .ok (.iconst 0, 1) := by decide +kernel
theorem dX10_clear_2 : decode cX10_clear 2 = .ok (.putfield 28, 3) := by decide +kernel
theorem dX10_clear_5 : decode cX10_clear 5 = .ok (.return_, 1) := by decide +kernel
theorem dX10_tell_0 : decode cX10_tell 0 = .ok (.aload_n 0, 1) := by decide +kernel
theorem dX10_tell_1 : decode cX10_tell 1 = .ok (.getfield 28, 3) := by decide +kernel
theorem dX10_tell_4 : decode cX10_tell 4 = .ok (.bipush 30, 2) := by decide +kernel
theorem dX10_tell_6 : decode cX10_tell 6 = .ok (.if_icmp .lt 5, 3) := by decide +kernel
theorem dX10_tell_11 : decode cX10_tell 11 = .ok (.aload_n 0, 1) := by decide +kernel
theorem dX10_tell_12 : decode cX10_tell 12 = .ok (.getfield 9, 3) := by decide +kernel
theorem dX10_tell_15 : decode cX10_tell 15 = .ok (.aload_n 0, 1) := by decide +kernel
theorem dX10_tell_16 : decode cX10_tell 16 = .ok (.getfield 28, 3) := by decide +kernel
theorem dX10_tell_19 : decode cX10_tell 19 = .ok (.iload_n 1, 1) := by decide +kernel
theorem dX10_tell_20 : decode cX10_tell 20 = .ok (.iastore, 1) := by decide +kernel
theorem dX10_tell_21 : decode cX10_tell 21 = .ok (.aload_n 0, 1) := by decide +kernel
theorem dX10_tell_22 : decode cX10_tell 22 = .ok (.getfield 15, 3) := by decide +kernel
theorem dX10_tell_25 : decode cX10_tell 25 = .ok (.aload_n 0, 1) := by decide +kernel
theorem dX10_tell_26 : decode cX10_tell 26 = .ok (.getfield 28, 3) := by decide +kernel
theorem dX10_tell_29 : decode cX10_tell 29 = .ok (.iload_n 2, 1) := by decide +kernel
theorem dX10_tell_30 : decode cX10_tell 30 = .ok (.bastore, 1) := by decide +kernel
theorem dX10_tell_31 : decode cX10_tell 31 = .ok (.aload_n 0, 1) := by decide +kernel
theorem dX10_tell_32 : decode cX10_tell 32 = .ok (.getfield 19, 3) := by decide +kernel
theorem dX10_tell_35 : decode cX10_tell 35 = .ok (.aload_n 0, 1) := by decide +kernel
theorem dX10_tell_36 : decode cX10_tell 36 = .ok (.getfield 28, 3) := by decide +kernel
theorem dX10_tell_39 : decode cX10_tell 39 = .ok (.iload_n 3, 1) := by decide +kernel
theorem dX10_tell_40 : decode cX10_tell 40 = .ok (.bastore, 1) := by decide +kernel
theorem dX10_tell_41 : decode cX10_tell 41 = .ok (.aload_n 0, 1) := by decide +kernel
theorem dX10_tell_42 : decode cX10_tell 42 = .ok (.getfield 22, 3) := by decide +kernel
theorem dX10_tell_45 : decode cX10_tell 45 = .ok (.aload_n 0, 1) := by decide +kernel
theorem dX10_tell_46 : decode cX10_tell 46 = .ok (.getfield 28, 3) := by decide +kernel
theorem dX10_tell_49 : decode cX10_tell 49 = .ok (.iload 4, 2) := by decide +kernel
theorem dX10_tell_51 : decode cX10_tell 51 = .ok (.iastore, 1) := by decide +kernel
theorem dX10_tell_52 : decode cX10_tell 52 = .ok (.aload_n 0, 1) := by decide +kernel
theorem dX10_tell_53 : decode cX10_tell 53 = .ok (.getfield 25, 3) := by decide +kernel
theorem dX10_tell_56 : decode cX10_tell 56 = .ok (.aload_n 0, 1) := by decide +kernel
theorem dX10_tell_57 : decode cX10_tell 57 = .ok (.getfield 28, 3) := by decide +kernel
theorem dX10_tell_60 : decode cX10_tell 60 = .ok (.iconst (-1), 1) := by decide +kernel
theorem dX10_tell_61 : decode cX10_tell 61 = .ok (.iastore, 1) := by decide +kernel
theorem dX10_tell_62 : decode cX10_tell 62 = .ok (.aload_n 0, 1) := by decide +kernel
theorem dX10_tell_63 : decode cX10_tell 63 = .ok (.dup, 1) := by decide +kernel
theorem dX10_tell_64 : decode cX10_tell 64 = .ok (.getfield 28, 3) := by decide +kernel
theorem dX10_tell_67 : decode cX10_tell 67 = .ok (.iconst 1, 1) := by decide +kernel
theorem dX10_tell_68 : decode cX10_tell 68 = .ok (.iadd, 1) := by decide +kernel
theorem dX10_tell_69 : decode cX10_tell 69 = .ok (.putfield 28, 3) := by decide +kernel
theorem dX10_tell_72 : decode cX10_tell 72 = .ok (.aload_n 0, 1) := by decide +kernel
theorem dX10_tell_73 : decode cX10_tell 73 = .ok (.getfield 28, 3) := by decide +kernel
theorem dX10_tell_76 : decode cX10_tell 76 = .ok (.iconst 1, 1) := by decide +kernel
theorem dX10_tell_77 : decode cX10_tell 77 = .ok (.isub, 1) := by decide +kernel
theorem dX10_tell_78 : decode cX10_tell 78 = .ok (.ireturn, 1) := by decide +kernel
theorem dX10_tell_9 : decode cX10_tell 9 = .ok (.iconst (-1), 1) := by decide +kernel
theorem dX10_tell_10 : decode cX10_tell 10 = .ok (.ireturn, 1) := by decide +kernel
theorem dX10_takeBack_0 : decode cX10_takeBack 0 = .ok (.iload_n 1, 1) := by decide +kernel
theorem dX10_takeBack_1 : decode cX10_takeBack 1 = .ok (.ifCond .lt 21, 3) := by decide +kernel
theorem dX10_takeBack_22 : decode cX10_takeBack 22 = .ok (.iconst 0, 1) := by decide +kernel
theorem dX10_takeBack_23 : decode cX10_takeBack 23 = .ok (.ireturn, 1) := by decide +kernel
theorem dX10_takeBack_4 : decode cX10_takeBack 4 = .ok (.iload_n 1, 1) := by decide +kernel
theorem dX10_takeBack_5 : decode cX10_takeBack 5 = .ok (.aload_n 0, 1) := by decide +kernel
theorem dX10_takeBack_6 : decode cX10_takeBack 6 = .ok (.getfield 28, 3) := by decide +kernel
theorem dX10_takeBack_9 : decode cX10_takeBack 9 = .ok (.if_icmp .ge 13, 3) := by decide +kernel
theorem dX10_takeBack_12 : decode cX10_takeBack 12 = .ok (.aload_n 0, 1) := by decide +kernel
theorem dX10_takeBack_13 : decode cX10_takeBack 13 = .ok (.getfield 25, 3) := by decide +kernel
theorem dX10_takeBack_16 : decode cX10_takeBack 16 = .ok (.iload_n 1, 1) := by decide +kernel
theorem dX10_takeBack_17 : decode cX10_takeBack 17 = .ok (.iaload, 1) := by decide +kernel
theorem dX10_takeBack_18 : decode cX10_takeBack 18 = .ok (.iconst (-1), 1) := by decide +kernel
theorem dX10_takeBack_19 : decode cX10_takeBack 19 = .ok (.if_icmp .eq 5, 3) := by decide +kernel
theorem dX10_takeBack_24 : decode cX10_takeBack 24 = .ok (.aload_n 0, 1) := by decide +kernel
theorem dX10_takeBack_25 : decode cX10_takeBack 25 = .ok (.getfield 25, 3) := by decide +kernel
theorem dX10_takeBack_28 : decode cX10_takeBack 28 = .ok (.iload_n 1, 1) := by decide +kernel
theorem dX10_takeBack_29 : decode cX10_takeBack 29 = .ok (.iload_n 2, 1) := by decide +kernel
theorem dX10_takeBack_30 : decode cX10_takeBack 30 = .ok (.iastore, 1) := by decide +kernel
theorem dX10_takeBack_31 : decode cX10_takeBack 31 = .ok (.iconst 1, 1) := by decide +kernel
theorem dX10_takeBack_32 : decode cX10_takeBack 32 = .ok (.ireturn, 1) := by decide +kernel
theorem dX10_counts_25 : decode cX10_counts 25 = .ok (.istore_n 3, 1) := by decide +kernel
theorem dX10_counts_26 : decode cX10_counts 26 = .ok (.aload_n 0, 1) := by decide +kernel
theorem dX10_counts_27 : decode cX10_counts 27 = .ok (.getfield 22, 3) := by decide +kernel
theorem dX10_counts_30 : decode cX10_counts 30 = .ok (.iload_n 1, 1) := by decide +kernel
theorem dX10_counts_31 : decode cX10_counts 31 = .ok (.iaload, 1) := by decide +kernel
theorem dX10_counts_32 : decode cX10_counts 32 = .ok (.iload_n 2, 1) := by decide +kernel
theorem dX10_counts_33 : decode cX10_counts 33 = .ok (.if_icmp .gt 11, 3) := by decide +kernel
theorem dX10_counts_44 : decode cX10_counts 44 = .ok (.iconst 0, 1) := by decide +kernel
theorem dX10_counts_45 : decode cX10_counts 45 = .ok (.ireturn, 1) := by decide +kernel
theorem dX10_counts_36 : decode cX10_counts 36 = .ok (.iload_n 3, 1) := by decide +kernel
theorem dX10_counts_37 : decode cX10_counts 37 = .ok (.ifCond .ne 7, 3) := by decide +kernel
theorem dX10_counts_40 : decode cX10_counts 40 = .ok (.iconst 1, 1) := by decide +kernel
theorem dX10_counts_41 : decode cX10_counts 41 = .ok (.goto 4, 3) := by decide +kernel
theorem dX10_counts_0 : decode cX10_counts 0 = .ok (.aload_n 0, 1) := by decide +kernel
theorem dX10_counts_1 : decode cX10_counts 1 = .ok (.getfield 25, 3) := by decide +kernel
theorem dX10_counts_4 : decode cX10_counts 4 = .ok (.iload_n 1, 1) := by decide +kernel
theorem dX10_counts_5 : decode cX10_counts 5 = .ok (.iaload, 1) := by decide +kernel
theorem dX10_counts_6 : decode cX10_counts 6 = .ok (.iconst (-1), 1) := by decide +kernel
theorem dX10_counts_7 : decode cX10_counts 7 = .ok (.if_icmp .eq 17, 3) := by decide +kernel
theorem dX10_counts_24 : decode cX10_counts 24 = .ok (.iconst 0, 1) := by decide +kernel
theorem dX10_counts_10 : decode cX10_counts 10 = .ok (.aload_n 0, 1) := by decide +kernel
theorem dX10_counts_11 : decode cX10_counts 11 = .ok (.getfield 25, 3) := by decide +kernel
theorem dX10_counts_14 : decode cX10_counts 14 = .ok (.iload_n 1, 1) := by decide +kernel
theorem dX10_counts_15 : decode cX10_counts 15 = .ok (.iaload, 1) := by decide +kernel
theorem dX10_counts_16 : decode cX10_counts 16 = .ok (.iload_n 2, 1) := by decide +kernel
theorem dX10_counts_17 : decode cX10_counts 17 = .ok (.if_icmp .gt 7, 3) := by decide +kernel
theorem dX10_counts_20 : decode cX10_counts 20 = .ok (.iconst 1, 1) := by decide +kernel
theorem dX10_counts_21 : decode cX10_counts 21 = .ok (.goto 4, 3) := by decide +kernel
theorem dX10_leftAt_0 : decode cX10_leftAt 0 = .ok (.iconst 1, 1) := by decide +kernel
theorem dX10_leftAt_1 : decode cX10_leftAt 1 = .ok (.aload_n 2, 1) := by decide +kernel
theorem dX10_leftAt_2 : decode cX10_leftAt 2 = .ok (.getfield 32, 3) := by decide +kernel
theorem dX10_leftAt_5 : decode cX10_leftAt 5 = .ok (.ishl, 1) := by decide +kernel
theorem dX10_leftAt_6 : decode cX10_leftAt 6 = .ok (.iconst 1, 1) := by decide +kernel
theorem dX10_leftAt_7 : decode cX10_leftAt 7 = .ok (.isub, 1) := by decide +kernel
theorem dX10_leftAt_8 : decode cX10_leftAt 8 = .ok (.istore_n 3, 1) := by decide +kernel
theorem dX10_leftAt_9 : decode cX10_leftAt 9 = .ok (.iconst 0, 1) := by decide +kernel
theorem dX10_leftAt_10 : decode cX10_leftAt 10 = .ok (.istore 4, 2) := by decide +kernel
theorem dX10_leftAt_12 : decode cX10_leftAt 12 = .ok (.iload 4, 2) := by decide +kernel
theorem dX10_leftAt_14 : decode cX10_leftAt 14 = .ok (.aload_n 0, 1) := by decide +kernel
theorem dX10_leftAt_15 : decode cX10_leftAt 15 = .ok (.getfield 28, 3) := by decide +kernel
theorem dX10_leftAt_18 : decode cX10_leftAt 18 = .ok (.if_icmp .ge 79, 3) := by decide +kernel
theorem dX10_leftAt_97 : decode cX10_leftAt 97 = .ok (.iload_n 3, 1) := by decide +kernel
theorem dX10_leftAt_98 : decode cX10_leftAt 98 = .ok (.ireturn, 1) := by decide +kernel
theorem dX10_leftAt_21 : decode cX10_leftAt 21 = .ok (.aload_n 0, 1) := by decide +kernel
theorem dX10_leftAt_22 : decode cX10_leftAt 22 = .ok (.iload 4, 2) := by decide +kernel
theorem dX10_leftAt_24 : decode cX10_leftAt 24 = .ok (.iload_n 1, 1) := by decide +kernel
theorem dX10_leftAt_25 : decode cX10_leftAt 25 = .ok (.invokevirtual 37, 3) := by decide +kernel
theorem dX10_leftAt_28 : decode cX10_leftAt 28 = .ok (.ifCond .eq 63, 3) := by decide +kernel
theorem dX10_leftAt_91 : decode cX10_leftAt 91 = .ok (.iinc 4 1, 3) := by decide +kernel
theorem dX10_leftAt_94 : decode cX10_leftAt 94 = .ok (.goto (-82), 3) := by decide +kernel
theorem dX10_leftAt_31 : decode cX10_leftAt 31 = .ok (.aload_n 2, 1) := by decide +kernel
theorem dX10_leftAt_32 : decode cX10_leftAt 32 = .ok (.aload_n 0, 1) := by decide +kernel
theorem dX10_leftAt_33 : decode cX10_leftAt 33 = .ok (.getfield 9, 3) := by decide +kernel
theorem dX10_leftAt_36 : decode cX10_leftAt 36 = .ok (.iload 4, 2) := by decide +kernel
theorem dX10_leftAt_38 : decode cX10_leftAt 38 = .ok (.iaload, 1) := by decide +kernel
theorem dX10_leftAt_39 : decode cX10_leftAt 39 = .ok (.invokevirtual 41, 3) := by decide +kernel
theorem dX10_leftAt_42 : decode cX10_leftAt 42 = .ok (.ifCond .eq 49, 3) := by decide +kernel
theorem dX10_leftAt_45 : decode cX10_leftAt 45 = .ok (.aload_n 2, 1) := by decide +kernel
theorem dX10_leftAt_46 : decode cX10_leftAt 46 = .ok (.getfield 45, 3) := by decide +kernel
theorem dX10_leftAt_49 : decode cX10_leftAt 49 = .ok (.aload_n 0, 1) := by decide +kernel
theorem dX10_leftAt_50 : decode cX10_leftAt 50 = .ok (.getfield 9, 3) := by decide +kernel
theorem dX10_leftAt_53 : decode cX10_leftAt 53 = .ok (.iload 4, 2) := by decide +kernel
theorem dX10_leftAt_55 : decode cX10_leftAt 55 = .ok (.iaload, 1) := by decide +kernel
theorem dX10_leftAt_56 : decode cX10_leftAt 56 = .ok (.aaload, 1) := by decide +kernel
theorem dX10_leftAt_57 : decode cX10_leftAt 57 = .ok (.aload_n 0, 1) := by decide +kernel
theorem dX10_leftAt_58 : decode cX10_leftAt 58 = .ok (.getfield 15, 3) := by decide +kernel
theorem dX10_leftAt_61 : decode cX10_leftAt 61 = .ok (.iload 4, 2) := by decide +kernel
theorem dX10_leftAt_63 : decode cX10_leftAt 63 = .ok (.baload, 1) := by decide +kernel
theorem dX10_leftAt_64 : decode cX10_leftAt 64 = .ok (.invokevirtual 49, 3) := by decide +kernel
theorem dX10_leftAt_67 : decode cX10_leftAt 67 = .ok (.istore 5, 2) := by decide +kernel
theorem dX10_leftAt_69 : decode cX10_leftAt 69 = .ok (.iload_n 3, 1) := by decide +kernel
theorem dX10_leftAt_70 : decode cX10_leftAt 70 = .ok (.aload_n 0, 1) := by decide +kernel
theorem dX10_leftAt_71 : decode cX10_leftAt 71 = .ok (.getfield 19, 3) := by decide +kernel
theorem dX10_leftAt_74 : decode cX10_leftAt 74 = .ok (.iload 4, 2) := by decide +kernel
theorem dX10_leftAt_76 : decode cX10_leftAt 76 = .ok (.baload, 1) := by decide +kernel
theorem dX10_leftAt_77 : decode cX10_leftAt 77 = .ok (.ifCond .eq 8, 3) := by decide +kernel
theorem dX10_leftAt_85 : decode cX10_leftAt 85 = .ok (.iload 5, 2) := by decide +kernel
theorem dX10_leftAt_87 : decode cX10_leftAt 87 = .ok (.iconst (-1), 1) := by decide +kernel
theorem dX10_leftAt_88 : decode cX10_leftAt 88 = .ok (.ixor, 1) := by decide +kernel
theorem dX10_leftAt_89 : decode cX10_leftAt 89 = .ok (.iand, 1) := by decide +kernel
theorem dX10_leftAt_90 : decode cX10_leftAt 90 = .ok (.istore_n 3, 1) := by decide +kernel
theorem dX10_leftAt_80 : decode cX10_leftAt 80 = .ok (.iload 5, 2) := by decide +kernel
theorem dX10_leftAt_82 : decode cX10_leftAt 82 = .ok (.goto 7, 3) := by decide +kernel
set_option maxHeartbeats 4000000 in
set_option maxRecDepth 100000 in
theorem c_tclear (l : Launch) (G : va_G) (cy : Nat → ClassId) (sz : Nat) (L : List Nat) (K : Nat → Nat) (R : Nat → Nat → Nat) (T : Int) (I E : Nat → Nat → Int32) (J B : Nat → Nat → Int64) (this : Nat)  (hRT : RT L K R) (hI : IV T L K I) (hE : EV L K E) (hthis1 : this ∈ L) (hthis2 : K this = 1) : Met l yX9_clear (.code yX9_clear cX9_clear 2 none :: TBg) ({ frames := 1, cells := 0, slots := 0, locals := 64 }) (va_Pc [.ref this] (En G cy (WC cy L K R I J E B) sz)) (va_Qv (fun (u : (Nat → Nat → Int32) × (Nat → Nat → Int64) × (Nat → Nat → Int32) × (Nat → Nat → Int64)) => IV T L K u.1 ∧ EV L K u.2.2.1 ∧ FI [(1, 3), (1, 5), (1, 7), (6, 2)] K I u.1 ∧ (True)) (fun u t => Ex G (va_A (WC cy L K R I J E B) sz) (WC cy L K R u.1 u.2.1 u.2.2.1 u.2.2.2) t) (va_A (WC cy L K R I J E B) sz)) 0 0 (va_A (WC cy L K R I J E B) sz) := by
  have hthis : this ∈ L ∧ K this = 1 := ⟨hthis1, hthis2⟩
  refine Met.ofW (cc := cX9_clear) (maxL := 2) (ret := none) (by decide) rfl ?_
  intro p e s m args below meth c s₁ B9 hml hv9
  obtain ⟨rfl, hsz, hP, hK, hD0, hN⟩ := hv9
  have hx := B9.exec
  have hb := B9.bytes
  have hr := B9.returns
  have hts := atoms_spec (ws := .code yX9_clear cX9_clear 2 none :: TBg) B9.pre
  have ht : ∀ w ∈ TBg, w.before _ s = true := fun w h => hts w (List.mem_cons_of_mem _ h)
  have hown : s.vm.findClass RX9 = some m.cls := findClass_of_methodNamed B9.named
  have hlocks := B9.notSynchronized
  subst hsz
  have hD := hD0.self (sz := s.heap.size)
  generalize hAe : va_A (WC cy L K R I J E B) s.heap.size = A at hD ⊢
  have hA : ∀ q : Nat, s.heap.size ≤ q → A q := fun q h => by rw [← hAe]; exact Or.inr h
  have hS : va_S A s.heap s.heap [] := va_S.rf
  have hl := lv_entry ([.ref this]) (n := 2) (Nat.le_of_ble_eq_true rfl)
  rw [lg_entry_eq]
  generalize (lg_sl ([.ref this]) ++ List.replicate (2 - (lg_sl ([.ref this])).length) Slot.unset).toArray = ls at hl ⊢
  have hl : lv_has ls 2 [(0, .ref this)] := hl
  have z0 : (0 : Int32).toInt = 0 := by decide
  have z1 : (1 : Int32).toInt = 1 := by decide
  have z2 : (12 : Int32).toInt = 12 := by decide
  have hC_0 : FI [(1, 3), (1, 5), (1, 7), (6, 2)] K I I := FI.rf
  refine lv_aload_n hx hb dX9_clear_0 rfl (lv_at hl 0 rfl) ?_
  refine lv_iconst (v := 0) hx hb dX9_clear_1 (by decide) ?_
  refine cp_1_3_9 hx hb ht hown hK hN hP hD hS hthis.1 hthis.2 dX9_clear_2 (fun H locs hP hD hS => ?_)
  replace hI := IV.up hI hthis.2 3 (show 0 ≤ (0 : Int32).toInt ∧ (0 : Int32).toInt ≤ 14 from by omega)
  have f_1 : FI [(1, 3)] K I (va_up I this (va_up (I this) 3 0)) := FI.up hthis.2 3 (0 : Int32)
  have e_2 : (va_up I this (va_up (I this) 3 0)) this 3 = 0 := FI.at I this 3 (0 : Int32)
  replace hC_0 := FI.tr hC_0 f_1 (by decide)
  generalize (va_up I this (va_up (I this) 3 0)) = I_3 at hP hD hI f_1 e_2 hC_0
  refine lv_aload_n hx hb dX9_clear_5 rfl (lv_at hl 0 rfl) ?_
  refine lv_iconst (v := 0) hx hb dX9_clear_6 (by decide) ?_
  refine cp_1_5_9 hx hb ht hown hK hN hP hD hS hthis.1 hthis.2 dX9_clear_7 (fun H locs hP hD hS => ?_)
  replace hI := IV.up hI hthis.2 5 (show 0 ≤ (0 : Int32).toInt ∧ (0 : Int32).toInt ≤ 8 from by omega)
  have f_4 : FI [(1, 5)] K I_3 (va_up I_3 this (va_up (I_3 this) 5 0)) := FI.up hthis.2 5 (0 : Int32)
  have e_5 : (va_up I_3 this (va_up (I_3 this) 5 0)) this 5 = 0 := FI.at I_3 this 5 (0 : Int32)
  replace hC_0 := FI.tr hC_0 f_4 (by decide)
  generalize (va_up I_3 this (va_up (I_3 this) 5 0)) = I_6 at hP hD hI f_4 e_5 hC_0
  refine lv_aload_n hx hb dX9_clear_10 rfl (lv_at hl 0 rfl) ?_
  refine lv_iconst (v := 0) hx hb dX9_clear_11 (by decide) ?_
  refine cp_1_7_9 hx hb ht hown hK hN hP hD hS hthis.1 hthis.2 dX9_clear_12 (fun H locs hP hD hS => ?_)
  replace hI := IV.up hI hthis.2 7 (ow_any (0 : Int32))
  have f_7 : FI [(1, 7)] K I_6 (va_up I_6 this (va_up (I_6 this) 7 0)) := FI.up hthis.2 7 (0 : Int32)
  have e_8 : (va_up I_6 this (va_up (I_6 this) 7 0)) this 7 = 0 := FI.at I_6 this 7 (0 : Int32)
  replace hC_0 := FI.tr hC_0 f_7 (by decide)
  generalize (va_up I_6 this (va_up (I_6 this) 7 0)) = I_9 at hP hD hI f_7 e_8 hC_0
  refine lv_aload_n hx hb dX9_clear_15 rfl (lv_at hl 0 rfl) ?_
  refine cg_1_6_9 hx hb ht hown hK hN hP hthis.1 hthis.2 dX9_clear_16 ?_
  have hm_10 : (R this 6) ∈ L ∧ K (R this 6) = 6 := RT.o hRT hthis.1 hthis.2 6 (by decide)
  refine lv_iconst (v := 0) hx hb dX9_clear_19 (by decide) ?_
  refine cp_6_2_9 hx hb ht hown hK hN hP hD hS hm_10.1 hm_10.2 dX9_clear_20 (fun H locs hP hD hS => ?_)
  replace hI := IV.up hI hm_10.2 2 (show 0 ≤ (0 : Int32).toInt ∧ (0 : Int32).toInt ≤ 540 from by omega)
  have f_11 : FI [(6, 2)] K I_9 (va_up I_9 (R this 6) (va_up (I_9 (R this 6)) 2 0)) := FI.up hm_10.2 2 (0 : Int32)
  have e_12 : (va_up I_9 (R this 6) (va_up (I_9 (R this 6)) 2 0)) (R this 6) 2 = 0 := FI.at I_9 (R this 6) 2 (0 : Int32)
  replace hC_0 := FI.tr hC_0 f_11 (by decide)
  generalize (va_up I_9 (R this 6) (va_up (I_9 (R this 6)) 2 0)) = I_13 at hP hD hI f_11 e_12 hC_0
  refine lv_iconst (v := 0) hx hb dX9_clear_23 (by decide) ?_
  refine lv_istore_n (lv' := [(1, .int 0), (0, .ref this)]) hx hb dX9_clear_24 rfl hl (by decide) rfl (fun ls hl => ?_)
  refine W.widen (k := 0) (n := 0) (Nat.le_of_ble_eq_true rfl) (Nat.le_of_ble_eq_true rfl) ?_
  have lp_14 : ∀ (N_14 : Nat) (x1_14 : Int32) (I14 : Nat → Nat → Int32) (J14 : Nat → Nat → Int64) (E14 : Nat → Nat → Int32) (B14 : Nat → Nat → Int64) (H : Heap) (locs : List Loc) (ls : Array Slot), IV T L K I14 → EV L K E14 → FI [(1, 3), (1, 5), (1, 7), (6, 2)] K I_13 I14 → (0 ≤ x1_14.toInt ∧ x1_14.toInt ≤ 12) → (12 - x1_14.toInt).toNat < N_14 → va_P G vwCl (WC cy L K R I14 J14 E14 B14) H → va_D A (WC cy L K R I14 J14 E14 B14) → va_S A s.heap H locs → lv_has ls 2 [(1, .int x1_14), (0, .ref this)] → W p l e (headSpec (.code yX9_clear cX9_clear 2 none :: TBg) ({ frames := 1, cells := 0, slots := 0, locals := 64 })).room s m ([.ref this] : List Value).toArray below meth c H locs 0 0 (MQ below (va_Qv (fun (u : (Nat → Nat → Int32) × (Nat → Nat → Int64) × (Nat → Nat → Int32) × (Nat → Nat → Int64)) => IV T L K u.1 ∧ EV L K u.2.2.1 ∧ FI [(1, 3), (1, 5), (1, 7), (6, 2)] K I u.1 ∧ (True)) (fun u t => Ex G A (WC cy L K R u.1 u.2.1 u.2.2.1 u.2.2.2) t) A) ([.ref this] : List Value).toArray s 0 0 A) (F0 m 25 ls []) := by
    intro N_14
    induction N_14 with
    | zero => intro x1_14 I14 J14 E14 B14 H locs ls hI hE hC_14 qf14_0 hm9 hP hD hS hl; exact absurd hm9 (Nat.not_lt_zero _)
    | succ N_14 ih_14 =>
      intro x1_14 I14 J14 E14 B14 H locs ls hI hE hC_14 qf14_0 hm9 hP hD hS hl
      replace hC_0 := FI.tr hC_0 hC_14 (by decide)
      have hX_14 := hC_14
      refine lv_iload_n hx hb dX9_clear_25 rfl (lv_at hl 0 rfl) ?_
      refine lv_aload_n hx hb dX9_clear_26 rfl (lv_at hl 1 rfl) ?_
      refine cg_1_8_9 hx hb ht hown hK hN hP hthis.1 hthis.2 dX9_clear_27 ?_
      have hm_15 : (R this 8) ∈ L ∧ K (R this 8) = 33 := RT.o hRT hthis.1 hthis.2 8 (by decide)
      refine cn_33 hx hb hK hP hm_15.1 hm_15.2 dX9_clear_30 ?_
      refine lv_icmp_ge (tgt := 47) hx hb dX9_clear_31 (by decide) (fun c_16 => ?_) (fun c_16 => ?_)
      · have q_17 : (12 : Int32).toInt ≤ x1_14.toInt := (ow_le _ _).mp c_16
        refine W.widen (k := 0) (n := 0) (Nat.le_of_ble_eq_true rfl) (Nat.le_of_ble_eq_true rfl) ?_
        exact W.vret hx hb hr (fun t ht9 hW => ⟨⟨(I14, J14, E14, B14), rfl, ⟨hI, hE, hC_0, trivial⟩, ⟨by rw [ht9]; exact hP, hD⟩⟩, hS.F ht9⟩) hS.2.2 dX9_clear_47
      · have q_18 : x1_14.toInt < (12 : Int32).toInt := by have := (not_congr (ow_le _ _)).mp c_16; omega
        refine lv_aload_n hx hb dX9_clear_34 rfl (lv_at hl 1 rfl) ?_
        refine cg_1_8_9 hx hb ht hown hK hN hP hthis.1 hthis.2 dX9_clear_35 ?_
        refine lv_iload_n hx hb dX9_clear_38 rfl (lv_at hl 0 rfl) ?_
        refine lv_iconst (v := 0) hx hb dX9_clear_39 (by decide) ?_
        have q_19 : vp_in x1_14 12 := vp_in_iff.mpr ⟨by omega, by omega⟩
        refine cs_33 hx hb hK hP hD hS hm_15.1 hm_15.2 q_19 dX9_clear_40 (fun H locs hP hD hS => ?_)
        replace hE := EV.up hE hm_15.2 (i := (Int32.toNatClampNeg x1_14)) (ow_nz (0 : Int32))
        generalize (va_up E14 (R this 8) (upd (E14 (R this 8)) (Int32.toNatClampNeg x1_14) (vp_nar .boolean 0))) = E_20 at hP hD hE
        obtain ⟨v_21, ev_21⟩ : ∃ y : Int32, y = x1_14 + 1 := ⟨_, rfl⟩
        refine lv_iinc (v := v_21) (lv' := [(1, .int v_21), (0, .ref this)]) hx hb dX9_clear_41 hl (k := 0) rfl (by rw [ev_21]; rfl) (by decide) rfl (fun ls hl => ?_)
        have q_22 : v_21.toInt = x1_14.toInt + 1 := by have := ow_add ev_21 (by omega) (by omega); omega
        refine lv_goto (tgt := 25) hx hb dX9_clear_44 (by decide) ?_
        refine W.widen (k := 0) (n := 0) (Nat.le_of_ble_eq_true rfl) (Nat.le_of_ble_eq_true rfl) ?_
        exact ih_14 v_21 I14 J14 E_20 B14 _ _ _ hI hE hX_14 (by omega) (by omega) hP hD hS (lv_sub hl [0, 1] rfl)
  exact lp_14 _ (0) I_13 J E B _ _ _ hI hE FI.rf (by omega) (Nat.lt_succ_self _) hP hD hS (lv_sub hl [0, 1] rfl)
set_option maxHeartbeats 4000000 in
set_option maxRecDepth 100000 in
theorem c_hasTune (l : Launch) (G : va_G) (cy : Nat → ClassId) (sz : Nat) (L : List Nat) (K : Nat → Nat) (R : Nat → Nat → Nat) (T : Int) (I E : Nat → Nat → Int32) (J B : Nat → Nat → Int64) (this : Nat) (n : Int32) (hRT : RT L K R) (hI : IV T L K I) (hE : EV L K E) (hthis1 : this ∈ L) (hthis2 : K this = 1) : Met l yX9_hasTune (.code yX9_hasTune cX9_hasTune 2 (some .boolean) :: TBg) ({ frames := 1, cells := 0, slots := 0, locals := 64 }) (va_Pc [.ref this, .int n] (En G cy (WC cy L K R I J E B) sz)) (va_Qi (fun (r : Int32) (_ : Unit) => (r.toInt = 0 ∨ (r.toInt = 1 ∧ 0 ≤ n.toInt ∧ n.toInt ≤ 13))) (fun _ _ => True) (va_A [] sz)) 0 0 (va_A [] sz) := by
  have hthis : this ∈ L ∧ K this = 1 := ⟨hthis1, hthis2⟩
  refine Met.ofW (cc := cX9_hasTune) (maxL := 2) (ret := (some .boolean)) (by decide) rfl ?_
  intro p e s m args below meth c s₁ B9 hml hv9
  obtain ⟨rfl, hsz, hP, hK, hD0, hN⟩ := hv9
  have hx := B9.exec
  have hb := B9.bytes
  have hr := B9.returns
  have hts := atoms_spec (ws := .code yX9_hasTune cX9_hasTune 2 (some .boolean) :: TBg) B9.pre
  have ht : ∀ w ∈ TBg, w.before _ s = true := fun w h => hts w (List.mem_cons_of_mem _ h)
  have hown : s.vm.findClass RX9 = some m.cls := findClass_of_methodNamed B9.named
  have hlocks := B9.notSynchronized
  subst hsz
  generalize hAe : va_A [] s.heap.size = A at ⊢
  have hA : ∀ q : Nat, s.heap.size ≤ q → A q := fun q h => by rw [← hAe]; exact Or.inr h
  have hS : va_S A s.heap s.heap [] := va_S.rf
  have hl := lv_entry ([.ref this, .int n]) (n := 2) (Nat.le_of_ble_eq_true rfl)
  rw [lg_entry_eq]
  generalize (lg_sl ([.ref this, .int n]) ++ List.replicate (2 - (lg_sl ([.ref this, .int n])).length) Slot.unset).toArray = ls at hl ⊢
  have hl : lv_has ls 2 [(0, .ref this), (1, .int n)] := hl
  have z0 : (0 : Int32).toInt = 0 := by decide
  have z1 : (1 : Int32).toInt = 1 := by decide
  refine lv_iload_n hx hb dX9_hasTune_0 rfl (lv_at hl 1 rfl) ?_
  refine lv_if_lt (tgt := 16) hx hb dX9_hasTune_1 (by decide) (fun c_1 => ?_) (fun c_1 => ?_)
  · have q_2 : n.toInt < (0 : Int32).toInt := (ow_lt _ _).mp c_1
    refine lv_iconst (v := 0) hx hb dX9_hasTune_16 (by decide) ?_
    refine W.widen (k := 0) (n := 0) (Nat.le_of_ble_eq_true rfl) (Nat.le_of_ble_eq_true rfl) ?_
    exact W.zret (v := 0) hx hb hr rfl (fun t ht9 hW => ⟨⟨0, (), rfl, (by omega), trivial⟩, hS.F ht9⟩) hS.2.2 dX9_hasTune_17
  · have q_3 : (0 : Int32).toInt ≤ n.toInt := by have := (not_congr (ow_lt _ _)).mp c_1; omega
    refine lv_iload_n hx hb dX9_hasTune_4 rfl (lv_at hl 1 rfl) ?_
    refine lv_aload_n hx hb dX9_hasTune_5 rfl (lv_at hl 0 rfl) ?_
    refine cg_1_3_9 hx hb ht hown hK hN hP hthis.1 hthis.2 dX9_hasTune_6 ?_
    have q_4 : 0 ≤ (I this 3).toInt ∧ (I this 3).toInt ≤ 14 := IV.rd hI hthis.1 hthis.2 3
    refine lv_icmp_ge (tgt := 16) hx hb dX9_hasTune_9 (by decide) (fun c_5 => ?_) (fun c_5 => ?_)
    · have q_6 : (I this 3).toInt ≤ n.toInt := (ow_le _ _).mp c_5
      refine lv_iconst (v := 0) hx hb dX9_hasTune_16 (by decide) ?_
      refine W.widen (k := 0) (n := 0) (Nat.le_of_ble_eq_true rfl) (Nat.le_of_ble_eq_true rfl) ?_
      exact W.zret (v := 0) hx hb hr rfl (fun t ht9 hW => ⟨⟨0, (), rfl, (by omega), trivial⟩, hS.F ht9⟩) hS.2.2 dX9_hasTune_17
    · have q_7 : n.toInt < (I this 3).toInt := by have := (not_congr (ow_le _ _)).mp c_5; omega
      refine lv_iconst (v := 1) hx hb dX9_hasTune_12 (by decide) ?_
      refine lv_goto (tgt := 17) hx hb dX9_hasTune_13 (by decide) ?_
      refine W.widen (k := 0) (n := 0) (Nat.le_of_ble_eq_true rfl) (Nat.le_of_ble_eq_true rfl) ?_
      exact W.zret (v := 1) hx hb hr rfl (fun t ht9 hW => ⟨⟨1, (), rfl, (by omega), trivial⟩, hS.F ht9⟩) hS.2.2 dX9_hasTune_17
set_option maxHeartbeats 4000000 in
set_option maxRecDepth 100000 in
theorem c_hasLock (l : Launch) (G : va_G) (cy : Nat → ClassId) (sz : Nat) (L : List Nat) (K : Nat → Nat) (R : Nat → Nat → Nat) (T : Int) (I E : Nat → Nat → Int32) (J B : Nat → Nat → Int64) (this : Nat) (n : Int32) (hRT : RT L K R) (hI : IV T L K I) (hE : EV L K E) (hthis1 : this ∈ L) (hthis2 : K this = 1) : Met l yX9_hasLock (.code yX9_hasLock cX9_hasLock 2 (some .boolean) :: TBg) ({ frames := 1, cells := 0, slots := 0, locals := 64 }) (va_Pc [.ref this, .int n] (En G cy (WC cy L K R I J E B) sz)) (va_Qi (fun (r : Int32) (_ : Unit) => (r.toInt = 0 ∨ (r.toInt = 1 ∧ 0 ≤ n.toInt ∧ n.toInt ≤ 7))) (fun _ _ => True) (va_A [] sz)) 0 0 (va_A [] sz) := by
  have hthis : this ∈ L ∧ K this = 1 := ⟨hthis1, hthis2⟩
  refine Met.ofW (cc := cX9_hasLock) (maxL := 2) (ret := (some .boolean)) (by decide) rfl ?_
  intro p e s m args below meth c s₁ B9 hml hv9
  obtain ⟨rfl, hsz, hP, hK, hD0, hN⟩ := hv9
  have hx := B9.exec
  have hb := B9.bytes
  have hr := B9.returns
  have hts := atoms_spec (ws := .code yX9_hasLock cX9_hasLock 2 (some .boolean) :: TBg) B9.pre
  have ht : ∀ w ∈ TBg, w.before _ s = true := fun w h => hts w (List.mem_cons_of_mem _ h)
  have hown : s.vm.findClass RX9 = some m.cls := findClass_of_methodNamed B9.named
  have hlocks := B9.notSynchronized
  subst hsz
  generalize hAe : va_A [] s.heap.size = A at ⊢
  have hA : ∀ q : Nat, s.heap.size ≤ q → A q := fun q h => by rw [← hAe]; exact Or.inr h
  have hS : va_S A s.heap s.heap [] := va_S.rf
  have hl := lv_entry ([.ref this, .int n]) (n := 2) (Nat.le_of_ble_eq_true rfl)
  rw [lg_entry_eq]
  generalize (lg_sl ([.ref this, .int n]) ++ List.replicate (2 - (lg_sl ([.ref this, .int n])).length) Slot.unset).toArray = ls at hl ⊢
  have hl : lv_has ls 2 [(0, .ref this), (1, .int n)] := hl
  have z0 : (0 : Int32).toInt = 0 := by decide
  have z1 : (1 : Int32).toInt = 1 := by decide
  refine lv_iload_n hx hb dX9_hasLock_0 rfl (lv_at hl 1 rfl) ?_
  refine lv_if_lt (tgt := 16) hx hb dX9_hasLock_1 (by decide) (fun c_1 => ?_) (fun c_1 => ?_)
  · have q_2 : n.toInt < (0 : Int32).toInt := (ow_lt _ _).mp c_1
    refine lv_iconst (v := 0) hx hb dX9_hasLock_16 (by decide) ?_
    refine W.widen (k := 0) (n := 0) (Nat.le_of_ble_eq_true rfl) (Nat.le_of_ble_eq_true rfl) ?_
    exact W.zret (v := 0) hx hb hr rfl (fun t ht9 hW => ⟨⟨0, (), rfl, (by omega), trivial⟩, hS.F ht9⟩) hS.2.2 dX9_hasLock_17
  · have q_3 : (0 : Int32).toInt ≤ n.toInt := by have := (not_congr (ow_lt _ _)).mp c_1; omega
    refine lv_iload_n hx hb dX9_hasLock_4 rfl (lv_at hl 1 rfl) ?_
    refine lv_aload_n hx hb dX9_hasLock_5 rfl (lv_at hl 0 rfl) ?_
    refine cg_1_5_9 hx hb ht hown hK hN hP hthis.1 hthis.2 dX9_hasLock_6 ?_
    have q_4 : 0 ≤ (I this 5).toInt ∧ (I this 5).toInt ≤ 8 := IV.rd hI hthis.1 hthis.2 5
    refine lv_icmp_ge (tgt := 16) hx hb dX9_hasLock_9 (by decide) (fun c_5 => ?_) (fun c_5 => ?_)
    · have q_6 : (I this 5).toInt ≤ n.toInt := (ow_le _ _).mp c_5
      refine lv_iconst (v := 0) hx hb dX9_hasLock_16 (by decide) ?_
      refine W.widen (k := 0) (n := 0) (Nat.le_of_ble_eq_true rfl) (Nat.le_of_ble_eq_true rfl) ?_
      exact W.zret (v := 0) hx hb hr rfl (fun t ht9 hW => ⟨⟨0, (), rfl, (by omega), trivial⟩, hS.F ht9⟩) hS.2.2 dX9_hasLock_17
    · have q_7 : n.toInt < (I this 5).toInt := by have := (not_congr (ow_le _ _)).mp c_5; omega
      refine lv_iconst (v := 1) hx hb dX9_hasLock_12 (by decide) ?_
      refine lv_goto (tgt := 17) hx hb dX9_hasLock_13 (by decide) ?_
      refine W.widen (k := 0) (n := 0) (Nat.le_of_ble_eq_true rfl) (Nat.le_of_ble_eq_true rfl) ?_
      exact W.zret (v := 1) hx hb hr rfl (fun t ht9 hW => ⟨⟨1, (), rfl, (by omega), trivial⟩, hS.F ht9⟩) hS.2.2 dX9_hasLock_17
set_option maxHeartbeats 4000000 in
set_option maxRecDepth 100000 in
theorem c_tuneNamed (l : Launch) (G : va_G) (cy : Nat → ClassId) (sz : Nat) (L : List Nat) (K : Nat → Nat) (R : Nat → Nat → Nat) (T : Int) (I E : Nat → Nat → Int32) (J B : Nat → Nat → Int64) (this : Nat) (w : Int64) (hRT : RT L K R) (hI : IV T L K I) (hE : EV L K E) (hthis1 : this ∈ L) (hthis2 : K this = 1) : Met l yX9_tuneNamed (.code yX9_tuneNamed cX9_tuneNamed 4 (some .int) :: TBg) ({ frames := 1, cells := 0, slots := 0, locals := 64 }) (va_Pc [.ref this, .long w] (En G cy (WC cy L K R I J E B) sz)) (va_Qi (fun (r : Int32) (_ : Unit) => (-1 ≤ r.toInt ∧ r.toInt ≤ 13)) (fun _ _ => True) (va_A [] sz)) 0 0 (va_A [] sz) := by
  have hthis : this ∈ L ∧ K this = 1 := ⟨hthis1, hthis2⟩
  refine Met.ofW (cc := cX9_tuneNamed) (maxL := 4) (ret := (some .int)) (by decide) rfl ?_
  intro p e s m args below meth c s₁ B9 hml hv9
  obtain ⟨rfl, hsz, hP, hK, hD0, hN⟩ := hv9
  have hx := B9.exec
  have hb := B9.bytes
  have hr := B9.returns
  have hts := atoms_spec (ws := .code yX9_tuneNamed cX9_tuneNamed 4 (some .int) :: TBg) B9.pre
  have ht : ∀ w ∈ TBg, w.before _ s = true := fun w h => hts w (List.mem_cons_of_mem _ h)
  have hown : s.vm.findClass RX9 = some m.cls := findClass_of_methodNamed B9.named
  have hlocks := B9.notSynchronized
  subst hsz
  generalize hAe : va_A [] s.heap.size = A at ⊢
  have hA : ∀ q : Nat, s.heap.size ≤ q → A q := fun q h => by rw [← hAe]; exact Or.inr h
  have hS : va_S A s.heap s.heap [] := va_S.rf
  have hl := lv_entry ([.ref this, .long w]) (n := 4) (Nat.le_of_ble_eq_true rfl)
  rw [lg_entry_eq]
  generalize (lg_sl ([.ref this, .long w]) ++ List.replicate (4 - (lg_sl ([.ref this, .long w])).length) Slot.unset).toArray = ls at hl ⊢
  have hl : lv_has ls 4 [(0, .ref this), (1, .long w)] := hl
  have z0 : (-1 : Int32).toInt = -1 := by decide
  have z1 : (0 : Int32).toInt = 0 := by decide
  have z2 : (1 : Int32).toInt = 1 := by decide
  refine lv_iconst (v := 0) hx hb dX9_tuneNamed_0 (by decide) ?_
  refine lv_istore_n (lv' := [(3, .int 0), (0, .ref this), (1, .long w)]) hx hb dX9_tuneNamed_1 rfl hl (by decide) rfl (fun ls hl => ?_)
  refine W.widen (k := 0) (n := 0) (Nat.le_of_ble_eq_true rfl) (Nat.le_of_ble_eq_true rfl) ?_
  have lp_1 : ∀ (N_1 : Nat) (x3_1 : Int32) (H : Heap) (locs : List Loc) (ls : Array Slot), (0 ≤ x3_1.toInt ∧ x3_1.toInt ≤ 14) → (14 - x3_1.toInt).toNat < N_1 → va_P G vwCl (WC cy L K R I J E B) H → va_S A s.heap H locs → lv_has ls 4 [(3, .int x3_1), (0, .ref this), (1, .long w)] → W p l e (headSpec (.code yX9_tuneNamed cX9_tuneNamed 4 (some .int) :: TBg) ({ frames := 1, cells := 0, slots := 0, locals := 64 })).room s m ([.ref this, .long w] : List Value).toArray below meth c H locs 0 0 (MQ below (va_Qi (fun (r : Int32) (_ : Unit) => (-1 ≤ r.toInt ∧ r.toInt ≤ 13)) (fun _ _ => True) A) ([.ref this, .long w] : List Value).toArray s 0 0 A) (F0 m 2 ls []) := by
    intro N_1
    induction N_1 with
    | zero => intro x3_1 H locs ls qf1_0 hm9 hP hS hl; exact absurd hm9 (Nat.not_lt_zero _)
    | succ N_1 ih_1 =>
      intro x3_1 H locs ls qf1_0 hm9 hP hS hl
      refine lv_iload_n hx hb dX9_tuneNamed_2 rfl (lv_at hl 0 rfl) ?_
      refine lv_aload_n hx hb dX9_tuneNamed_3 rfl (lv_at hl 1 rfl) ?_
      refine cg_1_3_9 hx hb ht hown hK hN hP hthis.1 hthis.2 dX9_tuneNamed_4 ?_
      have q_2 : 0 ≤ (I this 3).toInt ∧ (I this 3).toInt ≤ 14 := IV.rd hI hthis.1 hthis.2 3
      refine lv_icmp_ge (tgt := 29) hx hb dX9_tuneNamed_7 (by decide) (fun c_3 => ?_) (fun c_3 => ?_)
      · have q_4 : (I this 3).toInt ≤ x3_1.toInt := (ow_le _ _).mp c_3
        refine lv_iconst (v := (-1)) hx hb dX9_tuneNamed_29 (by decide) ?_
        refine W.widen (k := 0) (n := 0) (Nat.le_of_ble_eq_true rfl) (Nat.le_of_ble_eq_true rfl) ?_
        exact W.iret (v := (-1)) hx hb hr (fun t ht9 hW => ⟨⟨(-1), (), rfl, (by omega), trivial⟩, hS.F ht9⟩) hS.2.2 dX9_tuneNamed_30
      · have q_5 : x3_1.toInt < (I this 3).toInt := by have := (not_congr (ow_le _ _)).mp c_3; omega
        refine lv_aload_n hx hb dX9_tuneNamed_10 rfl (lv_at hl 1 rfl) ?_
        refine cg_1_1_9 hx hb ht hown hK hN hP hthis.1 hthis.2 dX9_tuneNamed_11 ?_
        have hm_6 : (R this 1) ∈ L ∧ K (R this 1) = 30 := RT.o hRT hthis.1 hthis.2 1 (by decide)
        refine lv_iload_n hx hb dX9_tuneNamed_14 rfl (lv_at hl 0 rfl) ?_
        have q_7 : vp_in x3_1 14 := vp_in_iff.mpr ⟨by omega, by omega⟩
        refine cl_30 hx hb hK hP hm_6.1 hm_6.2 q_7 dX9_tuneNamed_15 ?_
        refine lv_topl (fun v_8 ev_8 => ?_)
        refine lv_lload_n hx hb dX9_tuneNamed_16 rfl (lv_at hl 2 rfl) ?_
        refine W.lcmp hx hb dX9_tuneNamed_17 ?_
        refine lv_topi (fun v_9 ev_9 => ?_)
        refine lv_if_ne (tgt := 23) hx hb dX9_tuneNamed_18 (by decide) (fun c_10 => ?_) (fun c_10 => ?_)
        · have q_11 : ¬ v_9.toInt = (0 : Int32).toInt := by have := (not_congr (ow_eq _ _)).mp c_10; omega
          have lc_12 : ¬ v_8 = w := fun h9 => q_11 (by rw [ev_9, (lg_cmp_eq _ _).mpr h9])
          obtain ⟨v_13, ev_13⟩ : ∃ y : Int32, y = x3_1 + 1 := ⟨_, rfl⟩
          refine lv_iinc (v := v_13) (lv' := [(3, .int v_13), (0, .ref this), (1, .long w)]) hx hb dX9_tuneNamed_23 hl (k := 0) rfl (by rw [ev_13]; rfl) (by decide) rfl (fun ls hl => ?_)
          have q_14 : v_13.toInt = x3_1.toInt + 1 := by have := ow_add ev_13 (by omega) (by omega); omega
          refine lv_goto (tgt := 2) hx hb dX9_tuneNamed_26 (by decide) ?_
          refine W.widen (k := 0) (n := 0) (Nat.le_of_ble_eq_true rfl) (Nat.le_of_ble_eq_true rfl) ?_
          exact ih_1 v_13 _ _ _ (by omega) (by omega) hP hS (lv_sub hl [0, 1, 2] rfl)
        · have q_15 : v_9.toInt = (0 : Int32).toInt := (ow_eq _ _).mp c_10
          have lc_16 : v_8 = w := (lg_cmp_eq _ _).mp (by rw [← ev_9]; exact (ow_eq _ _).mpr (by omega))
          refine lv_iload_n hx hb dX9_tuneNamed_21 rfl (lv_at hl 0 rfl) ?_
          refine W.widen (k := 0) (n := 0) (Nat.le_of_ble_eq_true rfl) (Nat.le_of_ble_eq_true rfl) ?_
          exact W.iret (v := x3_1) hx hb hr (fun t ht9 hW => ⟨⟨x3_1, (), rfl, (by omega), trivial⟩, hS.F ht9⟩) hS.2.2 dX9_tuneNamed_22
  exact lp_1 _ (0) _ _ _ (by omega) (Nat.lt_succ_self _) hP hS (lv_sub hl [0, 1, 2] rfl)
set_option maxHeartbeats 4000000 in
set_option maxRecDepth 100000 in
theorem c_lockNamed (l : Launch) (G : va_G) (cy : Nat → ClassId) (sz : Nat) (L : List Nat) (K : Nat → Nat) (R : Nat → Nat → Nat) (T : Int) (I E : Nat → Nat → Int32) (J B : Nat → Nat → Int64) (this : Nat) (w : Int64) (hRT : RT L K R) (hI : IV T L K I) (hE : EV L K E) (hthis1 : this ∈ L) (hthis2 : K this = 1) : Met l yX9_hasLockNamed (.code yX9_hasLockNamed cX9_hasLockNamed 4 (some .boolean) :: TBg) ({ frames := 1, cells := 0, slots := 0, locals := 64 }) (va_Pc [.ref this, .long w] (En G cy (WC cy L K R I J E B) sz)) (va_Qi (fun (r : Int32) (_ : Unit) => (r.toInt = 0 ∨ r.toInt = 1)) (fun _ _ => True) (va_A [] sz)) 0 0 (va_A [] sz) := by
  have hthis : this ∈ L ∧ K this = 1 := ⟨hthis1, hthis2⟩
  refine Met.ofW (cc := cX9_hasLockNamed) (maxL := 4) (ret := (some .boolean)) (by decide) rfl ?_
  intro p e s m args below meth c s₁ B9 hml hv9
  obtain ⟨rfl, hsz, hP, hK, hD0, hN⟩ := hv9
  have hx := B9.exec
  have hb := B9.bytes
  have hr := B9.returns
  have hts := atoms_spec (ws := .code yX9_hasLockNamed cX9_hasLockNamed 4 (some .boolean) :: TBg) B9.pre
  have ht : ∀ w ∈ TBg, w.before _ s = true := fun w h => hts w (List.mem_cons_of_mem _ h)
  have hown : s.vm.findClass RX9 = some m.cls := findClass_of_methodNamed B9.named
  have hlocks := B9.notSynchronized
  subst hsz
  generalize hAe : va_A [] s.heap.size = A at ⊢
  have hA : ∀ q : Nat, s.heap.size ≤ q → A q := fun q h => by rw [← hAe]; exact Or.inr h
  have hS : va_S A s.heap s.heap [] := va_S.rf
  have hl := lv_entry ([.ref this, .long w]) (n := 4) (Nat.le_of_ble_eq_true rfl)
  rw [lg_entry_eq]
  generalize (lg_sl ([.ref this, .long w]) ++ List.replicate (4 - (lg_sl ([.ref this, .long w])).length) Slot.unset).toArray = ls at hl ⊢
  have hl : lv_has ls 4 [(0, .ref this), (1, .long w)] := hl
  have z0 : (0 : Int32).toInt = 0 := by decide
  have z1 : (1 : Int32).toInt = 1 := by decide
  refine lv_iconst (v := 0) hx hb dX9_hasLockNamed_0 (by decide) ?_
  refine lv_istore_n (lv' := [(3, .int 0), (0, .ref this), (1, .long w)]) hx hb dX9_hasLockNamed_1 rfl hl (by decide) rfl (fun ls hl => ?_)
  refine W.widen (k := 0) (n := 0) (Nat.le_of_ble_eq_true rfl) (Nat.le_of_ble_eq_true rfl) ?_
  have lp_1 : ∀ (N_1 : Nat) (x3_1 : Int32) (H : Heap) (locs : List Loc) (ls : Array Slot), (0 ≤ x3_1.toInt ∧ x3_1.toInt ≤ 8) → (8 - x3_1.toInt).toNat < N_1 → va_P G vwCl (WC cy L K R I J E B) H → va_S A s.heap H locs → lv_has ls 4 [(3, .int x3_1), (0, .ref this), (1, .long w)] → W p l e (headSpec (.code yX9_hasLockNamed cX9_hasLockNamed 4 (some .boolean) :: TBg) ({ frames := 1, cells := 0, slots := 0, locals := 64 })).room s m ([.ref this, .long w] : List Value).toArray below meth c H locs 0 0 (MQ below (va_Qi (fun (r : Int32) (_ : Unit) => (r.toInt = 0 ∨ r.toInt = 1)) (fun _ _ => True) A) ([.ref this, .long w] : List Value).toArray s 0 0 A) (F0 m 2 ls []) := by
    intro N_1
    induction N_1 with
    | zero => intro x3_1 H locs ls qf1_0 hm9 hP hS hl; exact absurd hm9 (Nat.not_lt_zero _)
    | succ N_1 ih_1 =>
      intro x3_1 H locs ls qf1_0 hm9 hP hS hl
      refine lv_iload_n hx hb dX9_hasLockNamed_2 rfl (lv_at hl 0 rfl) ?_
      refine lv_aload_n hx hb dX9_hasLockNamed_3 rfl (lv_at hl 1 rfl) ?_
      refine cg_1_5_9 hx hb ht hown hK hN hP hthis.1 hthis.2 dX9_hasLockNamed_4 ?_
      have q_2 : 0 ≤ (I this 5).toInt ∧ (I this 5).toInt ≤ 8 := IV.rd hI hthis.1 hthis.2 5
      refine lv_icmp_ge (tgt := 32) hx hb dX9_hasLockNamed_7 (by decide) (fun c_3 => ?_) (fun c_3 => ?_)
      · have q_4 : (I this 5).toInt ≤ x3_1.toInt := (ow_le _ _).mp c_3
        refine lv_iconst (v := 0) hx hb dX9_hasLockNamed_32 (by decide) ?_
        refine W.widen (k := 0) (n := 0) (Nat.le_of_ble_eq_true rfl) (Nat.le_of_ble_eq_true rfl) ?_
        exact W.zret (v := 0) hx hb hr rfl (fun t ht9 hW => ⟨⟨0, (), rfl, (by omega), trivial⟩, hS.F ht9⟩) hS.2.2 dX9_hasLockNamed_33
      · have q_5 : x3_1.toInt < (I this 5).toInt := by have := (not_congr (ow_le _ _)).mp c_3; omega
        refine lv_aload_n hx hb dX9_hasLockNamed_10 rfl (lv_at hl 1 rfl) ?_
        refine cg_1_4_9 hx hb ht hown hK hN hP hthis.1 hthis.2 dX9_hasLockNamed_11 ?_
        have hm_6 : (R this 4) ∈ L ∧ K (R this 4) = 32 := RT.o hRT hthis.1 hthis.2 4 (by decide)
        refine lv_iload_n hx hb dX9_hasLockNamed_14 rfl (lv_at hl 0 rfl) ?_
        have q_7 : vp_in x3_1 8 := vp_in_iff.mpr ⟨by omega, by omega⟩
        refine cl_32 hx hb hK hP hm_6.1 hm_6.2 q_7 dX9_hasLockNamed_15 ?_
        have hm_8 : (R (R this 4) (Int32.toNatClampNeg x3_1)) ∈ L ∧ K (R (R this 4) (Int32.toNatClampNeg x3_1)) = 5 := RT.a hRT hm_6.1 hm_6.2 (by decide) q_7
        refine cg_5_0_9 hx hb ht hown hK hN hP hm_8.1 hm_8.2 dX9_hasLockNamed_16 ?_
        refine lv_topl (fun v_9 ev_9 => ?_)
        refine lv_lload_n hx hb dX9_hasLockNamed_19 rfl (lv_at hl 2 rfl) ?_
        refine W.lcmp hx hb dX9_hasLockNamed_20 ?_
        refine lv_topi (fun v_10 ev_10 => ?_)
        refine lv_if_ne (tgt := 26) hx hb dX9_hasLockNamed_21 (by decide) (fun c_11 => ?_) (fun c_11 => ?_)
        · have q_12 : ¬ v_10.toInt = (0 : Int32).toInt := by have := (not_congr (ow_eq _ _)).mp c_11; omega
          have lc_13 : ¬ v_9 = w := fun h9 => q_12 (by rw [ev_10, (lg_cmp_eq _ _).mpr h9])
          obtain ⟨v_14, ev_14⟩ : ∃ y : Int32, y = x3_1 + 1 := ⟨_, rfl⟩
          refine lv_iinc (v := v_14) (lv' := [(3, .int v_14), (0, .ref this), (1, .long w)]) hx hb dX9_hasLockNamed_26 hl (k := 0) rfl (by rw [ev_14]; rfl) (by decide) rfl (fun ls hl => ?_)
          have q_15 : v_14.toInt = x3_1.toInt + 1 := by have := ow_add ev_14 (by omega) (by omega); omega
          refine lv_goto (tgt := 2) hx hb dX9_hasLockNamed_29 (by decide) ?_
          refine W.widen (k := 0) (n := 0) (Nat.le_of_ble_eq_true rfl) (Nat.le_of_ble_eq_true rfl) ?_
          exact ih_1 v_14 _ _ _ (by omega) (by omega) hP hS (lv_sub hl [0, 1, 2] rfl)
        · have q_16 : v_10.toInt = (0 : Int32).toInt := (ow_eq _ _).mp c_11
          have lc_17 : v_9 = w := (lg_cmp_eq _ _).mp (by rw [← ev_10]; exact (ow_eq _ _).mpr (by omega))
          refine lv_iconst (v := 1) hx hb dX9_hasLockNamed_24 (by decide) ?_
          refine W.widen (k := 0) (n := 0) (Nat.le_of_ble_eq_true rfl) (Nat.le_of_ble_eq_true rfl) ?_
          exact W.zret (v := 1) hx hb hr rfl (fun t ht9 hW => ⟨⟨1, (), rfl, (by omega), trivial⟩, hS.F ht9⟩) hS.2.2 dX9_hasLockNamed_25
  exact lp_1 _ (0) _ _ _ (by omega) (Nat.lt_succ_self _) hP hS (lv_sub hl [0, 1, 2] rfl)
set_option maxHeartbeats 4000000 in
set_option maxRecDepth 100000 in
theorem c_ask (l : Launch) (G : va_G) (cy : Nat → ClassId) (sz : Nat) (L : List Nat) (K : Nat → Nat) (R : Nat → Nat → Nat) (T : Int) (I E : Nat → Nat → Int32) (J B : Nat → Nat → Int64) (this : Nat) (n : Int32) (song : Nat) (n3 : Int32) (n4 : Int32) (hRT : RT L K R) (hI : IV T L K I) (hE : EV L K E) (hthis1 : this ∈ L) (hthis2 : K this = 1) (h_n : 0 ≤ n.toInt ∧ n.toInt ≤ 7) (h_song1 : song ∈ L) (h_song2 : K song = 4) (h_n3 : 0 ≤ n3.toInt ∧ n3.toInt ≤ 1) : Met l yX9_ask (.code yX9_ask cX9_ask 5 (some .int) :: TBg) ({ frames := 4, cells := 0, slots := 0, locals := 256 }) (va_Pc [.ref this, .int n, .ref song, .int n3, .int n4] (En G cy (WC cy L K R I J E B) sz)) (va_Qi (fun (r : Int32) (u : (Nat → Nat → Int32) × (Nat → Nat → Int64) × (Nat → Nat → Int32) × (Nat → Nat → Int64)) => IV T L K u.1 ∧ EV L K u.2.2.1 ∧ FI [(6, 4)] K I u.1 ∧ (True)) (fun u t => Ex G (va_A (WC cy L K R I J E B) sz) (WC cy L K R u.1 u.2.1 u.2.2.1 u.2.2.2) t) (va_A (WC cy L K R I J E B) sz)) 0 0 (va_A (WC cy L K R I J E B) sz) := by
  have hthis : this ∈ L ∧ K this = 1 := ⟨hthis1, hthis2⟩
  have h_song : song ∈ L ∧ K song = 4 := ⟨h_song1, h_song2⟩
  refine Met.ofW (cc := cX9_ask) (maxL := 5) (ret := (some .int)) (by decide) rfl ?_
  intro p e s m args below meth c s₁ B9 hml hv9
  obtain ⟨rfl, hsz, hP, hK, hD0, hN⟩ := hv9
  have hx := B9.exec
  have hb := B9.bytes
  have hr := B9.returns
  have hts := atoms_spec (ws := .code yX9_ask cX9_ask 5 (some .int) :: TBg) B9.pre
  have ht : ∀ w ∈ TBg, w.before _ s = true := fun w h => hts w (List.mem_cons_of_mem _ h)
  have hown : s.vm.findClass RX9 = some m.cls := findClass_of_methodNamed B9.named
  have hlocks := B9.notSynchronized
  subst hsz
  have hD := hD0.self (sz := s.heap.size)
  generalize hAe : va_A (WC cy L K R I J E B) s.heap.size = A at hD ⊢
  have hA : ∀ q : Nat, s.heap.size ≤ q → A q := fun q h => by rw [← hAe]; exact Or.inr h
  have hS : va_S A s.heap s.heap [] := va_S.rf
  have hl := lv_entry ([.ref this, .int n, .ref song, .int n3, .int n4]) (n := 5) (Nat.le_of_ble_eq_true rfl)
  rw [lg_entry_eq]
  generalize (lg_sl ([.ref this, .int n, .ref song, .int n3, .int n4]) ++ List.replicate (5 - (lg_sl ([.ref this, .int n, .ref song, .int n3, .int n4])).length) Slot.unset).toArray = ls at hl ⊢
  have hl : lv_has ls 5 [(0, .ref this), (1, .int n), (2, .ref song), (3, .int n3), (4, .int n4)] := hl
  have hC_0 : FI [(6, 4)] K I I := FI.rf
  refine lv_aload_n hx hb dX9_ask_0 rfl (lv_at hl 0 rfl) ?_
  refine cg_1_6_9 hx hb ht hown hK hN hP hthis.1 hthis.2 dX9_ask_1 ?_
  have hm_1 : (R this 6) ∈ L ∧ K (R this 6) = 6 := RT.o hRT hthis.1 hthis.2 6 (by decide)
  refine lv_aload_n hx hb dX9_ask_4 rfl (lv_at hl 0 rfl) ?_
  refine cg_1_4_9 hx hb ht hown hK hN hP hthis.1 hthis.2 dX9_ask_5 ?_
  have hm_2 : (R this 4) ∈ L ∧ K (R this 4) = 32 := RT.o hRT hthis.1 hthis.2 4 (by decide)
  refine lv_iload_n hx hb dX9_ask_8 rfl (lv_at hl 1 rfl) ?_
  have q_3 : vp_in n 8 := vp_in_iff.mpr ⟨by omega, by omega⟩
  refine cl_32 hx hb hK hP hm_2.1 hm_2.2 q_3 dX9_ask_9 ?_
  have hm_4 : (R (R this 4) (Int32.toNatClampNeg n)) ∈ L ∧ K (R (R this 4) (Int32.toNatClampNeg n)) = 5 := RT.a hRT hm_2.1 hm_2.2 (by decide) q_3
  refine lv_aload_n hx hb dX9_ask_10 rfl (lv_at hl 2 rfl) ?_
  refine lv_iload_n hx hb dX9_ask_11 rfl (lv_at hl 3 rfl) ?_
  refine lv_iload hx hb dX9_ask_12 (lv_at hl 4 rfl) ?_
  have hFc := fr_free hD hS hA
  refine va_calli (va_runV (As := [.ref (R (R this 4) (Int32.toNatClampNeg n)), .ref song, .int n3, .int n4]) (rest := []) ⟨hx, hb, hml, hown, ht⟩ (c_answer l G cy _ L K R T I E J B (R this 6) (R (R this 4) (Int32.toNatClampNeg n)) song n3 n4 hRT hI hE hm_1.1 hm_1.2 hm_4.1 hm_4.2 h_song.1 h_song.2 (by omega)) (cwV 4 ht (gv k_454 k_455 k_456 k_442 k_453) rfl rfl rfl (by decide +kernel) ⟨Nat.le_of_ble_eq_true rfl, Nat.le_of_ble_eq_true rfl⟩) ⟨En.blind, cr_6 hK hP hm_1.1 hm_1.2, fun U hU hW => ⟨rfl, En.of hU hW hP hK hD hN⟩⟩ rfl rfl hl.1 rfl (lv_room (Nat.le_of_ble_eq_true rfl)) dX9_ask_14 ⟨Nat.le_of_ble_eq_true rfl, Nat.le_of_ble_eq_true rfl⟩) hS (fun q _ h => hFc q h) hFc (fun r_u_5 u_5 t9 H locs ht9 hvm hw hB hz1 hk1 hS => ?_)
  obtain ⟨I5, J5, E5, B5⟩ := u_5
  obtain ⟨hP1, hD1⟩ := hB
  rw [ht9] at hP1
  clear hI hE
  obtain ⟨hI, hE, xu_5I, wu_5⟩ := hw
  dsimp only at hI hE xu_5I wu_5
  have hP : va_P G vwCl (WC cy L K R I5 J5 E5 B5) H := hP1
  have hD : va_D A (WC cy L K R I5 J5 E5 B5) := hD1.weaken (fun _ _ _ h => hFc _ h)
  clear hFc hk1 hz1 hP1 hD1
  replace hC_0 := FI.tr hC_0 xu_5I (by decide)
  refine W.widen (k := 0) (n := 0) (Nat.le_of_ble_eq_true rfl) (Nat.le_of_ble_eq_true rfl) ?_
  exact W.iret (v := r_u_5) hx hb hr (fun t ht9 hW => ⟨⟨r_u_5, (I5, J5, E5, B5), rfl, ⟨hI, hE, hC_0, trivial⟩, ⟨by rw [ht9]; exact hP, hD⟩⟩, hS.F ht9⟩) hS.2.2 dX9_ask_17
set_option maxHeartbeats 4000000 in
set_option maxRecDepth 100000 in
theorem c_opensTo (l : Launch) (G : va_G) (cy : Nat → ClassId) (sz : Nat) (L : List Nat) (K : Nat → Nat) (R : Nat → Nat → Nat) (T : Int) (I E : Nat → Nat → Int32) (J B : Nat → Nat → Int64) (this : Nat) (n : Int32) (song : Nat) (n3 : Int32) (n4 : Int32) (hRT : RT L K R) (hI : IV T L K I) (hE : EV L K E) (hthis1 : this ∈ L) (hthis2 : K this = 1) (h_n : 0 ≤ n.toInt ∧ n.toInt ≤ 7) (h_song1 : song ∈ L) (h_song2 : K song = 4) (h_n3 : 0 ≤ n3.toInt ∧ n3.toInt ≤ 1) : Met l yX9_opensTo (.code yX9_opensTo cX9_opensTo 5 (some .boolean) :: TBg) ({ frames := 5, cells := 0, slots := 0, locals := 320 }) (va_Pc [.ref this, .int n, .ref song, .int n3, .int n4] (En G cy (WC cy L K R I J E B) sz)) (va_Qi (fun (r : Int32) (u : (Nat → Nat → Int32) × (Nat → Nat → Int64) × (Nat → Nat → Int32) × (Nat → Nat → Int64)) => IV T L K u.1 ∧ EV L K u.2.2.1 ∧ FI [(6, 4)] K I u.1 ∧ ((r.toInt = 0 ∨ r.toInt = 1))) (fun u t => Ex G (va_A (WC cy L K R I J E B) sz) (WC cy L K R u.1 u.2.1 u.2.2.1 u.2.2.2) t) (va_A (WC cy L K R I J E B) sz)) 0 0 (va_A (WC cy L K R I J E B) sz) := by
  have hthis : this ∈ L ∧ K this = 1 := ⟨hthis1, hthis2⟩
  have h_song : song ∈ L ∧ K song = 4 := ⟨h_song1, h_song2⟩
  refine Met.ofW (cc := cX9_opensTo) (maxL := 5) (ret := (some .boolean)) (by decide) rfl ?_
  intro p e s m args below meth c s₁ B9 hml hv9
  obtain ⟨rfl, hsz, hP, hK, hD0, hN⟩ := hv9
  have hx := B9.exec
  have hb := B9.bytes
  have hr := B9.returns
  have hts := atoms_spec (ws := .code yX9_opensTo cX9_opensTo 5 (some .boolean) :: TBg) B9.pre
  have ht : ∀ w ∈ TBg, w.before _ s = true := fun w h => hts w (List.mem_cons_of_mem _ h)
  have hown : s.vm.findClass RX9 = some m.cls := findClass_of_methodNamed B9.named
  have hlocks := B9.notSynchronized
  subst hsz
  have hD := hD0.self (sz := s.heap.size)
  generalize hAe : va_A (WC cy L K R I J E B) s.heap.size = A at hD ⊢
  have hA : ∀ q : Nat, s.heap.size ≤ q → A q := fun q h => by rw [← hAe]; exact Or.inr h
  have hS : va_S A s.heap s.heap [] := va_S.rf
  have hl := lv_entry ([.ref this, .int n, .ref song, .int n3, .int n4]) (n := 5) (Nat.le_of_ble_eq_true rfl)
  rw [lg_entry_eq]
  generalize (lg_sl ([.ref this, .int n, .ref song, .int n3, .int n4]) ++ List.replicate (5 - (lg_sl ([.ref this, .int n, .ref song, .int n3, .int n4])).length) Slot.unset).toArray = ls at hl ⊢
  have hl : lv_has ls 5 [(0, .ref this), (1, .int n), (2, .ref song), (3, .int n3), (4, .int n4)] := hl
  have z0 : (0 : Int32).toInt = 0 := by decide
  have z1 : (1 : Int32).toInt = 1 := by decide
  have hC_0 : FI [(6, 4)] K I I := FI.rf
  refine lv_aload_n hx hb dX9_opensTo_0 rfl (lv_at hl 2 rfl) ?_
  refine cg_4_4_9 hx hb ht hown hK hN hP h_song.1 h_song.2 dX9_opensTo_1 ?_
  refine lv_if_le (tgt := 23) hx hb dX9_opensTo_4 (by decide) (fun c_1 => ?_) (fun c_1 => ?_)
  · have q_2 : (I song 4).toInt ≤ (0 : Int32).toInt := (ow_le _ _).mp c_1
    refine lv_iconst (v := 0) hx hb dX9_opensTo_23 (by decide) ?_
    refine W.widen (k := 0) (n := 0) (Nat.le_of_ble_eq_true rfl) (Nat.le_of_ble_eq_true rfl) ?_
    exact W.zret (v := 0) hx hb hr rfl (fun t ht9 hW => ⟨⟨0, (I, J, E, B), rfl, ⟨hI, hE, hC_0, (by omega)⟩, ⟨by rw [ht9]; exact hP, hD⟩⟩, hS.F ht9⟩) hS.2.2 dX9_opensTo_24
  · have q_3 : (0 : Int32).toInt < (I song 4).toInt := by have := (not_congr (ow_le _ _)).mp c_1; omega
    refine lv_aload_n hx hb dX9_opensTo_7 rfl (lv_at hl 0 rfl) ?_
    refine lv_iload_n hx hb dX9_opensTo_8 rfl (lv_at hl 1 rfl) ?_
    refine lv_aload_n hx hb dX9_opensTo_9 rfl (lv_at hl 2 rfl) ?_
    refine lv_iload_n hx hb dX9_opensTo_10 rfl (lv_at hl 3 rfl) ?_
    refine lv_iload hx hb dX9_opensTo_11 (lv_at hl 4 rfl) ?_
    have hFc := fr_free hD hS hA
    refine va_calli (va_runV (As := [.int n, .ref song, .int n3, .int n4]) (rest := []) ⟨hx, hb, hml, hown, ht⟩ (c_ask l G cy _ L K R T I E J B this n song n3 n4 hRT hI hE hthis.1 hthis.2 (by omega) h_song.1 h_song.2 (by omega)) (cwV 4 ht (gv k_458 k_459 k_460 k_461 k_457) rfl rfl rfl (by decide +kernel) ⟨Nat.le_of_ble_eq_true rfl, Nat.le_of_ble_eq_true rfl⟩) ⟨En.blind, cr_1 hK hP hthis.1 hthis.2, fun U hU hW => ⟨rfl, En.of hU hW hP hK hD hN⟩⟩ rfl rfl hl.1 rfl (lv_room (Nat.le_of_ble_eq_true rfl)) dX9_opensTo_13 ⟨Nat.le_of_ble_eq_true rfl, Nat.le_of_ble_eq_true rfl⟩) hS (fun q _ h => hFc q h) hFc (fun r_u_4 u_4 t9 H locs ht9 hvm hw hB hz1 hk1 hS => ?_)
    obtain ⟨I4, J4, E4, B4⟩ := u_4
    obtain ⟨hP1, hD1⟩ := hB
    rw [ht9] at hP1
    clear hI hE
    obtain ⟨hI, hE, xu_4I, wu_4⟩ := hw
    dsimp only at hI hE xu_4I wu_4
    have hP : va_P G vwCl (WC cy L K R I4 J4 E4 B4) H := hP1
    have hD : va_D A (WC cy L K R I4 J4 E4 B4) := hD1.weaken (fun _ _ _ h => hFc _ h)
    clear hFc hk1 hz1 hP1 hD1
    replace hC_0 := FI.tr hC_0 xu_4I (by decide)
    refine lv_if_eq (tgt := 23) hx hb dX9_opensTo_16 (by decide) (fun c_5 => ?_) (fun c_5 => ?_)
    · have q_6 : r_u_4.toInt = (0 : Int32).toInt := (ow_eq _ _).mp c_5
      refine lv_iconst (v := 0) hx hb dX9_opensTo_23 (by decide) ?_
      refine W.widen (k := 0) (n := 0) (Nat.le_of_ble_eq_true rfl) (Nat.le_of_ble_eq_true rfl) ?_
      exact W.zret (v := 0) hx hb hr rfl (fun t ht9 hW => ⟨⟨0, (I4, J4, E4, B4), rfl, ⟨hI, hE, hC_0, (by omega)⟩, ⟨by rw [ht9]; exact hP, hD⟩⟩, hS.F ht9⟩) hS.2.2 dX9_opensTo_24
    · have q_7 : ¬ r_u_4.toInt = (0 : Int32).toInt := by have := (not_congr (ow_eq _ _)).mp c_5; omega
      refine lv_iconst (v := 1) hx hb dX9_opensTo_19 (by decide) ?_
      refine lv_goto (tgt := 24) hx hb dX9_opensTo_20 (by decide) ?_
      refine W.widen (k := 0) (n := 0) (Nat.le_of_ble_eq_true rfl) (Nat.le_of_ble_eq_true rfl) ?_
      exact W.zret (v := 1) hx hb hr rfl (fun t ht9 hW => ⟨⟨1, (I4, J4, E4, B4), rfl, ⟨hI, hE, hC_0, (by omega)⟩, ⟨by rw [ht9]; exact hP, hD⟩⟩, hS.F ht9⟩) hS.2.2 dX9_opensTo_24
set_option maxHeartbeats 4000000 in
set_option maxRecDepth 100000 in
theorem c_never (l : Launch) (G : va_G) (cy : Nat → ClassId) (sz : Nat) (L : List Nat) (K : Nat → Nat) (R : Nat → Nat → Nat) (T : Int) (I E : Nat → Nat → Int32) (J B : Nat → Nat → Int64) (this : Nat) (n : Int32) (n2 : Int32) (hRT : RT L K R) (hI : IV T L K I) (hE : EV L K E) (hthis1 : this ∈ L) (hthis2 : K this = 1) (h_n : 0 ≤ n.toInt ∧ n.toInt ≤ 7) (h_n2 : 0 ≤ n2.toInt ∧ n2.toInt ≤ 1) : Met l yX9_opensNeverWorn (.code yX9_opensNeverWorn cX9_opensNeverWorn 5 (some .int) :: TBg) ({ frames := 6, cells := 0, slots := 0, locals := 384 }) (va_Pc [.ref this, .int n, .int n2] (En G cy (WC cy L K R I J E B) sz)) (va_Qi (fun (r : Int32) (u : (Nat → Nat → Int32) × (Nat → Nat → Int64) × (Nat → Nat → Int32) × (Nat → Nat → Int64)) => IV T L K u.1 ∧ EV L K u.2.2.1 ∧ FI [(6, 4)] K I u.1 ∧ (True)) (fun u t => Ex G (va_A (WC cy L K R I J E B) sz) (WC cy L K R u.1 u.2.1 u.2.2.1 u.2.2.2) t) (va_A (WC cy L K R I J E B) sz)) 0 0 (va_A (WC cy L K R I J E B) sz) := by
  have hthis : this ∈ L ∧ K this = 1 := ⟨hthis1, hthis2⟩
  refine Met.ofW (cc := cX9_opensNeverWorn) (maxL := 5) (ret := (some .int)) (by decide) rfl ?_
  intro p e s m args below meth c s₁ B9 hml hv9
  obtain ⟨rfl, hsz, hP, hK, hD0, hN⟩ := hv9
  have hx := B9.exec
  have hb := B9.bytes
  have hr := B9.returns
  have hts := atoms_spec (ws := .code yX9_opensNeverWorn cX9_opensNeverWorn 5 (some .int) :: TBg) B9.pre
  have ht : ∀ w ∈ TBg, w.before _ s = true := fun w h => hts w (List.mem_cons_of_mem _ h)
  have hown : s.vm.findClass RX9 = some m.cls := findClass_of_methodNamed B9.named
  have hlocks := B9.notSynchronized
  subst hsz
  have hD := hD0.self (sz := s.heap.size)
  generalize hAe : va_A (WC cy L K R I J E B) s.heap.size = A at hD ⊢
  have hA : ∀ q : Nat, s.heap.size ≤ q → A q := fun q h => by rw [← hAe]; exact Or.inr h
  have hS : va_S A s.heap s.heap [] := va_S.rf
  have hl := lv_entry ([.ref this, .int n, .int n2]) (n := 5) (Nat.le_of_ble_eq_true rfl)
  rw [lg_entry_eq]
  generalize (lg_sl ([.ref this, .int n, .int n2]) ++ List.replicate (5 - (lg_sl ([.ref this, .int n, .int n2])).length) Slot.unset).toArray = ls at hl ⊢
  have hl : lv_has ls 5 [(0, .ref this), (1, .int n), (2, .int n2)] := hl
  have z0 : (0 : Int32).toInt = 0 := by decide
  have z1 : (1 : Int32).toInt = 1 := by decide
  have hC_0 : FI [(6, 4)] K I I := FI.rf
  refine lv_iconst (v := 0) hx hb dX9_opensNeverWorn_0 (by decide) ?_
  refine lv_istore_n (lv' := [(3, .int 0), (0, .ref this), (1, .int n), (2, .int n2)]) hx hb dX9_opensNeverWorn_1 rfl hl (by decide) rfl (fun ls hl => ?_)
  refine lv_iconst (v := 0) hx hb dX9_opensNeverWorn_2 (by decide) ?_
  refine lv_istore (lv' := [(4, .int 0), (3, .int 0), (0, .ref this), (1, .int n), (2, .int n2)]) hx hb dX9_opensNeverWorn_3 hl (by decide) rfl (fun ls hl => ?_)
  refine W.widen (k := 0) (n := 0) (Nat.le_of_ble_eq_true rfl) (Nat.le_of_ble_eq_true rfl) ?_
  have lp_1 : ∀ (N_1 : Nat) (x4_1 : Int32) (x3_1 : Int32) (I1 : Nat → Nat → Int32) (J1 : Nat → Nat → Int64) (E1 : Nat → Nat → Int32) (B1 : Nat → Nat → Int64) (H : Heap) (locs : List Loc) (ls : Array Slot), IV T L K I1 → EV L K E1 → FI [(6, 4)] K I I1 → (0 ≤ x4_1.toInt ∧ x4_1.toInt ≤ 14) → (14 - x4_1.toInt).toNat < N_1 → va_P G vwCl (WC cy L K R I1 J1 E1 B1) H → va_D A (WC cy L K R I1 J1 E1 B1) → va_S A s.heap H locs → lv_has ls 5 [(4, .int x4_1), (3, .int x3_1), (0, .ref this), (1, .int n), (2, .int n2)] → W p l e (headSpec (.code yX9_opensNeverWorn cX9_opensNeverWorn 5 (some .int) :: TBg) ({ frames := 6, cells := 0, slots := 0, locals := 384 })).room s m ([.ref this, .int n, .int n2] : List Value).toArray below meth c H locs 0 0 (MQ below (va_Qi (fun (r : Int32) (u : (Nat → Nat → Int32) × (Nat → Nat → Int64) × (Nat → Nat → Int32) × (Nat → Nat → Int64)) => IV T L K u.1 ∧ EV L K u.2.2.1 ∧ FI [(6, 4)] K I u.1 ∧ (True)) (fun u t => Ex G A (WC cy L K R u.1 u.2.1 u.2.2.1 u.2.2.2) t) A) ([.ref this, .int n, .int n2] : List Value).toArray s 0 0 A) (F0 m 5 ls []) := by
    intro N_1
    induction N_1 with
    | zero => intro x4_1 x3_1 I1 J1 E1 B1 H locs ls hI hE hC_1 qf1_0 hm9 hP hD hS hl; exact absurd hm9 (Nat.not_lt_zero _)
    | succ N_1 ih_1 =>
      intro x4_1 x3_1 I1 J1 E1 B1 H locs ls hI hE hC_1 qf1_0 hm9 hP hD hS hl
      replace hC_0 := FI.tr hC_0 hC_1 (by decide)
      have hX_1 := hC_1
      refine lv_iload hx hb dX9_opensNeverWorn_5 (lv_at hl 0 rfl) ?_
      refine lv_aload_n hx hb dX9_opensNeverWorn_7 rfl (lv_at hl 2 rfl) ?_
      refine cg_1_3_9 hx hb ht hown hK hN hP hthis.1 hthis.2 dX9_opensNeverWorn_8 ?_
      refine ow_top (I this 3) (hC_1 this 3 (by rw [hthis.2]; decide)) ?_
      have q_2 : 0 ≤ (I this 3).toInt ∧ (I this 3).toInt ≤ 14 := by have h9 : I1 this 3 = (I this 3) := (hC_1 this 3 (by rw [hthis.2]; decide)); rw [← h9]; exact IV.rd hI hthis.1 hthis.2 3
      refine lv_icmp_ge (tgt := 44) hx hb dX9_opensNeverWorn_11 (by decide) (fun c_3 => ?_) (fun c_3 => ?_)
      · have q_4 : (I this 3).toInt ≤ x4_1.toInt := (ow_le _ _).mp c_3
        refine lv_iload_n hx hb dX9_opensNeverWorn_44 rfl (lv_at hl 1 rfl) ?_
        refine W.widen (k := 0) (n := 0) (Nat.le_of_ble_eq_true rfl) (Nat.le_of_ble_eq_true rfl) ?_
        exact W.iret (v := x3_1) hx hb hr (fun t ht9 hW => ⟨⟨x3_1, (I1, J1, E1, B1), rfl, ⟨hI, hE, hC_0, trivial⟩, ⟨by rw [ht9]; exact hP, hD⟩⟩, hS.F ht9⟩) hS.2.2 dX9_opensNeverWorn_45
      · have q_5 : x4_1.toInt < (I this 3).toInt := by have := (not_congr (ow_le _ _)).mp c_3; omega
        refine lv_aload_n hx hb dX9_opensNeverWorn_14 rfl (lv_at hl 2 rfl) ?_
        refine lv_iload_n hx hb dX9_opensNeverWorn_15 rfl (lv_at hl 3 rfl) ?_
        refine lv_aload_n hx hb dX9_opensNeverWorn_16 rfl (lv_at hl 2 rfl) ?_
        refine cg_1_2_9 hx hb ht hown hK hN hP hthis.1 hthis.2 dX9_opensNeverWorn_17 ?_
        have hm_6 : (R this 2) ∈ L ∧ K (R this 2) = 31 := RT.o hRT hthis.1 hthis.2 2 (by decide)
        refine lv_iload hx hb dX9_opensNeverWorn_20 (lv_at hl 0 rfl) ?_
        have q_7 : vp_in x4_1 14 := vp_in_iff.mpr ⟨by omega, by omega⟩
        refine cl_31 hx hb hK hP hm_6.1 hm_6.2 q_7 dX9_opensNeverWorn_22 ?_
        have hm_8 : (R (R this 2) (Int32.toNatClampNeg x4_1)) ∈ L ∧ K (R (R this 2) (Int32.toNatClampNeg x4_1)) = 4 := RT.a hRT hm_6.1 hm_6.2 (by decide) q_7
        refine lv_iload_n hx hb dX9_opensNeverWorn_23 rfl (lv_at hl 4 rfl) ?_
        refine lv_iconst (v := 0) hx hb dX9_opensNeverWorn_24 (by decide) ?_
        have hFc := fr_free hD hS hA
        refine va_calli (va_runV (As := [.int n, .ref (R (R this 2) (Int32.toNatClampNeg x4_1)), .int n2, .int 0]) (rest := []) ⟨hx, hb, hml, hown, ht⟩ (c_opensTo l G cy _ L K R T I1 E1 J1 B1 this n (R (R this 2) (Int32.toNatClampNeg x4_1)) n2 (0) hRT hI hE hthis.1 hthis.2 (by omega) hm_8.1 hm_8.2 (by omega)) (cwV 4 ht (gv k_463 k_464 k_465 k_461 k_462) rfl rfl rfl (by decide +kernel) ⟨Nat.le_of_ble_eq_true rfl, Nat.le_of_ble_eq_true rfl⟩) ⟨En.blind, cr_1 hK hP hthis.1 hthis.2, fun U hU hW => ⟨rfl, En.of hU hW hP hK hD hN⟩⟩ rfl rfl hl.1 rfl (lv_room (Nat.le_of_ble_eq_true rfl)) dX9_opensNeverWorn_25 ⟨Nat.le_of_ble_eq_true rfl, Nat.le_of_ble_eq_true rfl⟩) hS (fun q _ h => hFc q h) hFc (fun r_u_9 u_9 t9 H locs ht9 hvm hw hB hz1 hk1 hS => ?_)
        obtain ⟨I9, J9, E9, B9⟩ := u_9
        obtain ⟨hP1, hD1⟩ := hB
        rw [ht9] at hP1
        clear hI hE
        obtain ⟨hI, hE, xu_9I, wu_9⟩ := hw
        dsimp only at hI hE xu_9I wu_9
        have hP : va_P G vwCl (WC cy L K R I9 J9 E9 B9) H := hP1
        have hD : va_D A (WC cy L K R I9 J9 E9 B9) := hD1.weaken (fun _ _ _ h => hFc _ h)
        clear hFc hk1 hz1 hP1 hD1
        replace hC_0 := FI.tr hC_0 xu_9I (by decide)
        replace hX_1 := FI.tr hX_1 xu_9I (by decide)
        refine lv_if_eq (tgt := 38) hx hb dX9_opensNeverWorn_28 (by decide) (fun c_10 => ?_) (fun c_10 => ?_)
        · have q_11 : r_u_9.toInt = (0 : Int32).toInt := (ow_eq _ _).mp c_10
          obtain ⟨v_12, ev_12⟩ : ∃ y : Int32, y = x4_1 + 1 := ⟨_, rfl⟩
          refine lv_iinc (v := v_12) (lv' := [(4, .int v_12), (3, .int x3_1), (0, .ref this), (1, .int n), (2, .int n2)]) hx hb dX9_opensNeverWorn_38 hl (k := 0) rfl (by rw [ev_12]; rfl) (by decide) rfl (fun ls hl => ?_)
          have q_13 : v_12.toInt = x4_1.toInt + 1 := by have := ow_add ev_12 (by omega) (by omega); omega
          refine lv_goto (tgt := 5) hx hb dX9_opensNeverWorn_41 (by decide) ?_
          refine W.widen (k := 0) (n := 0) (Nat.le_of_ble_eq_true rfl) (Nat.le_of_ble_eq_true rfl) ?_
          exact ih_1 v_12 x3_1 I9 J9 E9 B9 _ _ _ hI hE hX_1 (by omega) (by omega) hP hD hS (lv_sub hl [0, 1, 2, 3, 4] rfl)
        · have q_14 : ¬ r_u_9.toInt = (0 : Int32).toInt := by have := (not_congr (ow_eq _ _)).mp c_10; omega
          refine lv_iload_n hx hb dX9_opensNeverWorn_31 rfl (lv_at hl 1 rfl) ?_
          refine lv_iconst (v := 1) hx hb dX9_opensNeverWorn_32 (by decide) ?_
          refine lv_iload hx hb dX9_opensNeverWorn_33 (lv_at hl 0 rfl) ?_
          refine lv_ishl hx hb dX9_opensNeverWorn_35 ?_
          refine lv_topi (fun v_15 ev_15 => ?_)
          refine lv_ior hx hb dX9_opensNeverWorn_36 ?_
          refine lv_topi (fun v_16 ev_16 => ?_)
          refine lv_istore_n (lv' := [(3, .int v_16), (4, .int x4_1), (0, .ref this), (1, .int n), (2, .int n2)]) hx hb dX9_opensNeverWorn_37 rfl hl (by decide) rfl (fun ls hl => ?_)
          obtain ⟨v_17, ev_17⟩ : ∃ y : Int32, y = x4_1 + 1 := ⟨_, rfl⟩
          refine lv_iinc (v := v_17) (lv' := [(4, .int v_17), (3, .int v_16), (0, .ref this), (1, .int n), (2, .int n2)]) hx hb dX9_opensNeverWorn_38 hl (k := 1) rfl (by rw [ev_17]; rfl) (by decide) rfl (fun ls hl => ?_)
          have q_18 : v_17.toInt = x4_1.toInt + 1 := by have := ow_add ev_17 (by omega) (by omega); omega
          refine lv_goto (tgt := 5) hx hb dX9_opensNeverWorn_41 (by decide) ?_
          refine W.widen (k := 0) (n := 0) (Nat.le_of_ble_eq_true rfl) (Nat.le_of_ble_eq_true rfl) ?_
          exact ih_1 v_17 v_16 I9 J9 E9 B9 _ _ _ hI hE hX_1 (by omega) (by omega) hP hD hS (lv_sub hl [0, 1, 2, 3, 4] rfl)
  exact lp_1 _ (0) (0) I J E B _ _ _ hI hE FI.rf (by omega) (Nat.lt_succ_self _) hP hD hS (lv_sub hl [0, 1, 2, 3, 4] rfl)
set_option maxHeartbeats 4000000 in
set_option maxRecDepth 100000 in
theorem c_prepare (l : Launch) (G : va_G) (cy : Nat → ClassId) (sz : Nat) (L : List Nat) (K : Nat → Nat) (R : Nat → Nat → Nat) (T : Int) (I E : Nat → Nat → Int32) (J B : Nat → Nat → Int64) (this : Nat)  (hRT : RT L K R) (hI : IV T L K I) (hE : EV L K E) (hthis1 : this ∈ L) (hthis2 : K this = 1) : Met l yX9_prepare (.code yX9_prepare cX9_prepare 2 none :: TBg) ({ frames := 7, cells := 0, slots := 0, locals := 448 }) (va_Pc [.ref this] (En G cy (WC cy L K R I J E B) sz)) (va_Qv (fun (u : (Nat → Nat → Int32) × (Nat → Nat → Int64) × (Nat → Nat → Int32) × (Nat → Nat → Int64)) => IV T L K u.1 ∧ EV L K u.2.2.1 ∧ FI [(4, 4), (5, 4), (5, 5), (6, 4)] K I u.1 ∧ (True)) (fun u t => Ex G (va_A (WC cy L K R I J E B) sz) (WC cy L K R u.1 u.2.1 u.2.2.1 u.2.2.2) t) (va_A (WC cy L K R I J E B) sz)) 0 0 (va_A (WC cy L K R I J E B) sz) := by
  have hthis : this ∈ L ∧ K this = 1 := ⟨hthis1, hthis2⟩
  refine Met.ofW (cc := cX9_prepare) (maxL := 2) (ret := none) (by decide) rfl ?_
  intro p e s m args below meth c s₁ B9 hml hv9
  obtain ⟨rfl, hsz, hP, hK, hD0, hN⟩ := hv9
  have hx := B9.exec
  have hb := B9.bytes
  have hr := B9.returns
  have hts := atoms_spec (ws := .code yX9_prepare cX9_prepare 2 none :: TBg) B9.pre
  have ht : ∀ w ∈ TBg, w.before _ s = true := fun w h => hts w (List.mem_cons_of_mem _ h)
  have hown : s.vm.findClass RX9 = some m.cls := findClass_of_methodNamed B9.named
  have hlocks := B9.notSynchronized
  subst hsz
  have hD := hD0.self (sz := s.heap.size)
  generalize hAe : va_A (WC cy L K R I J E B) s.heap.size = A at hD ⊢
  have hA : ∀ q : Nat, s.heap.size ≤ q → A q := fun q h => by rw [← hAe]; exact Or.inr h
  have hS : va_S A s.heap s.heap [] := va_S.rf
  have hl := lv_entry ([.ref this]) (n := 2) (Nat.le_of_ble_eq_true rfl)
  rw [lg_entry_eq]
  generalize (lg_sl ([.ref this]) ++ List.replicate (2 - (lg_sl ([.ref this])).length) Slot.unset).toArray = ls at hl ⊢
  have hl : lv_has ls 2 [(0, .ref this)] := hl
  have z0 : (0 : Int32).toInt = 0 := by decide
  have z1 : (1 : Int32).toInt = 1 := by decide
  have hC_0 : FI [(4, 4), (5, 4), (5, 5), (6, 4)] K I I := FI.rf
  refine lv_iconst (v := 0) hx hb dX9_prepare_0 (by decide) ?_
  refine lv_istore_n (lv' := [(1, .int 0), (0, .ref this)]) hx hb dX9_prepare_1 rfl hl (by decide) rfl (fun ls hl => ?_)
  refine W.widen (k := 0) (n := 0) (Nat.le_of_ble_eq_true rfl) (Nat.le_of_ble_eq_true rfl) ?_
  have lp_1 : ∀ (N_1 : Nat) (x1_1 : Int32) (I1 : Nat → Nat → Int32) (J1 : Nat → Nat → Int64) (E1 : Nat → Nat → Int32) (B1 : Nat → Nat → Int64) (H : Heap) (locs : List Loc) (ls : Array Slot), IV T L K I1 → EV L K E1 → FI [(4, 4), (5, 4), (5, 5), (6, 4)] K I I1 → (0 ≤ x1_1.toInt ∧ x1_1.toInt ≤ 14) → (14 - x1_1.toInt).toNat < N_1 → va_P G vwCl (WC cy L K R I1 J1 E1 B1) H → va_D A (WC cy L K R I1 J1 E1 B1) → va_S A s.heap H locs → lv_has ls 2 [(1, .int x1_1), (0, .ref this)] → W p l e (headSpec (.code yX9_prepare cX9_prepare 2 none :: TBg) ({ frames := 7, cells := 0, slots := 0, locals := 448 })).room s m ([.ref this] : List Value).toArray below meth c H locs 0 0 (MQ below (va_Qv (fun (u : (Nat → Nat → Int32) × (Nat → Nat → Int64) × (Nat → Nat → Int32) × (Nat → Nat → Int64)) => IV T L K u.1 ∧ EV L K u.2.2.1 ∧ FI [(4, 4), (5, 4), (5, 5), (6, 4)] K I u.1 ∧ (True)) (fun u t => Ex G A (WC cy L K R u.1 u.2.1 u.2.2.1 u.2.2.2) t) A) ([.ref this] : List Value).toArray s 0 0 A) (F0 m 2 ls []) := by
    intro N_1
    induction N_1 with
    | zero => intro x1_1 I1 J1 E1 B1 H locs ls hI hE hC_1 qf1_0 hm9 hP hD hS hl; exact absurd hm9 (Nat.not_lt_zero _)
    | succ N_1 ih_1 =>
      intro x1_1 I1 J1 E1 B1 H locs ls hI hE hC_1 qf1_0 hm9 hP hD hS hl
      replace hC_0 := FI.tr hC_0 hC_1 (by decide)
      have hX_1 := hC_1
      refine lv_iload_n hx hb dX9_prepare_2 rfl (lv_at hl 0 rfl) ?_
      refine lv_aload_n hx hb dX9_prepare_3 rfl (lv_at hl 1 rfl) ?_
      refine cg_1_3_9 hx hb ht hown hK hN hP hthis.1 hthis.2 dX9_prepare_4 ?_
      refine ow_top (I this 3) (hC_1 this 3 (by rw [hthis.2]; decide)) ?_
      have q_2 : 0 ≤ (I this 3).toInt ∧ (I this 3).toInt ≤ 14 := by have h9 : I1 this 3 = (I this 3) := (hC_1 this 3 (by rw [hthis.2]; decide)); rw [← h9]; exact IV.rd hI hthis.1 hthis.2 3
      refine lv_icmp_ge (tgt := 32) hx hb dX9_prepare_7 (by decide) (fun c_3 => ?_) (fun c_3 => ?_)
      · have q_4 : (I this 3).toInt ≤ x1_1.toInt := (ow_le _ _).mp c_3
        refine lv_iconst (v := 0) hx hb dX9_prepare_32 (by decide) ?_
        refine lv_istore_n (lv' := [(1, .int 0), (0, .ref this)]) hx hb dX9_prepare_33 rfl hl (by decide) rfl (fun ls hl => ?_)
        refine W.widen (k := 0) (n := 0) (Nat.le_of_ble_eq_true rfl) (Nat.le_of_ble_eq_true rfl) ?_
        have lp_5 : ∀ (N_5 : Nat) (x1_5 : Int32) (I5 : Nat → Nat → Int32) (J5 : Nat → Nat → Int64) (E5 : Nat → Nat → Int32) (B5 : Nat → Nat → Int64) (H : Heap) (locs : List Loc) (ls : Array Slot), IV T L K I5 → EV L K E5 → FI [(4, 4), (5, 4), (5, 5), (6, 4)] K I1 I5 → (0 ≤ x1_5.toInt ∧ x1_5.toInt ≤ 8) → (8 - x1_5.toInt).toNat < N_5 → va_P G vwCl (WC cy L K R I5 J5 E5 B5) H → va_D A (WC cy L K R I5 J5 E5 B5) → va_S A s.heap H locs → lv_has ls 2 [(1, .int x1_5), (0, .ref this)] → W p l e (headSpec (.code yX9_prepare cX9_prepare 2 none :: TBg) ({ frames := 7, cells := 0, slots := 0, locals := 448 })).room s m ([.ref this] : List Value).toArray below meth c H locs 0 0 (MQ below (va_Qv (fun (u : (Nat → Nat → Int32) × (Nat → Nat → Int64) × (Nat → Nat → Int32) × (Nat → Nat → Int64)) => IV T L K u.1 ∧ EV L K u.2.2.1 ∧ FI [(4, 4), (5, 4), (5, 5), (6, 4)] K I u.1 ∧ (True)) (fun u t => Ex G A (WC cy L K R u.1 u.2.1 u.2.2.1 u.2.2.2) t) A) ([.ref this] : List Value).toArray s 0 0 A) (F0 m 34 ls []) := by
          intro N_5
          induction N_5 with
          | zero => intro x1_5 I5 J5 E5 B5 H locs ls hI hE hC_5 qf5_0 hm9 hP hD hS hl; exact absurd hm9 (Nat.not_lt_zero _)
          | succ N_5 ih_5 =>
            intro x1_5 I5 J5 E5 B5 H locs ls hI hE hC_5 qf5_0 hm9 hP hD hS hl
            replace hC_0 := FI.tr hC_0 hC_5 (by decide)
            have hX_5 := hC_5
            refine lv_iload_n hx hb dX9_prepare_34 rfl (lv_at hl 0 rfl) ?_
            refine lv_aload_n hx hb dX9_prepare_35 rfl (lv_at hl 1 rfl) ?_
            refine cg_1_5_9 hx hb ht hown hK hN hP hthis.1 hthis.2 dX9_prepare_36 ?_
            refine ow_top (I this 5) ((hC_5 this 5 (by rw [hthis.2]; decide)).trans (hC_1 this 5 (by rw [hthis.2]; decide))) ?_
            have q_6 : 0 ≤ (I this 5).toInt ∧ (I this 5).toInt ≤ 8 := by have h9 : I5 this 5 = (I this 5) := ((hC_5 this 5 (by rw [hthis.2]; decide)).trans (hC_1 this 5 (by rw [hthis.2]; decide))); rw [← h9]; exact IV.rd hI hthis.1 hthis.2 5
            refine lv_icmp_ge (tgt := 78) hx hb dX9_prepare_39 (by decide) (fun c_7 => ?_) (fun c_7 => ?_)
            · have q_8 : (I this 5).toInt ≤ x1_5.toInt := (ow_le _ _).mp c_7
              refine W.widen (k := 0) (n := 0) (Nat.le_of_ble_eq_true rfl) (Nat.le_of_ble_eq_true rfl) ?_
              exact W.vret hx hb hr (fun t ht9 hW => ⟨⟨(I5, J5, E5, B5), rfl, ⟨hI, hE, hC_0, trivial⟩, ⟨by rw [ht9]; exact hP, hD⟩⟩, hS.F ht9⟩) hS.2.2 dX9_prepare_78
            · have q_9 : x1_5.toInt < (I this 5).toInt := by have := (not_congr (ow_le _ _)).mp c_7; omega
              refine lv_aload_n hx hb dX9_prepare_42 rfl (lv_at hl 1 rfl) ?_
              refine cg_1_4_9 hx hb ht hown hK hN hP hthis.1 hthis.2 dX9_prepare_43 ?_
              have hm_10 : (R this 4) ∈ L ∧ K (R this 4) = 32 := RT.o hRT hthis.1 hthis.2 4 (by decide)
              refine lv_iload_n hx hb dX9_prepare_46 rfl (lv_at hl 0 rfl) ?_
              have q_11 : vp_in x1_5 8 := vp_in_iff.mpr ⟨by omega, by omega⟩
              refine cl_32 hx hb hK hP hm_10.1 hm_10.2 q_11 dX9_prepare_47 ?_
              have hm_12 : (R (R this 4) (Int32.toNatClampNeg x1_5)) ∈ L ∧ K (R (R this 4) (Int32.toNatClampNeg x1_5)) = 5 := RT.a hRT hm_10.1 hm_10.2 (by decide) q_11
              refine lv_aload_n hx hb dX9_prepare_48 rfl (lv_at hl 1 rfl) ?_
              refine lv_iload_n hx hb dX9_prepare_49 rfl (lv_at hl 0 rfl) ?_
              refine lv_iconst (v := 0) hx hb dX9_prepare_50 (by decide) ?_
              have hFc := fr_free hD hS hA
              refine va_calli (va_runV (As := [.int x1_5, .int 0]) (rest := [.ref (R (R this 4) (Int32.toNatClampNeg x1_5))]) ⟨hx, hb, hml, hown, ht⟩ (c_never l G cy _ L K R T I5 E5 J5 B5 this x1_5 (0) hRT hI hE hthis.1 hthis.2 (by omega) (by omega)) (cwV 2 ht (gv k_467 k_468 k_469 k_461 k_466) rfl rfl rfl (by decide +kernel) ⟨Nat.le_of_ble_eq_true rfl, Nat.le_of_ble_eq_true rfl⟩) ⟨En.blind, cr_1 hK hP hthis.1 hthis.2, fun U hU hW => ⟨rfl, En.of hU hW hP hK hD hN⟩⟩ rfl rfl hl.1 rfl (lv_room (Nat.le_of_ble_eq_true rfl)) dX9_prepare_51 ⟨Nat.le_of_ble_eq_true rfl, Nat.le_of_ble_eq_true rfl⟩) hS (fun q _ h => hFc q h) hFc (fun r_u_13 u_13 t9 H locs ht9 hvm hw hB hz1 hk1 hS => ?_)
              obtain ⟨I13, J13, E13, B13⟩ := u_13
              obtain ⟨hP1, hD1⟩ := hB
              rw [ht9] at hP1
              clear hI hE
              obtain ⟨hI, hE, xu_13I, wu_13⟩ := hw
              dsimp only at hI hE xu_13I wu_13
              have hP : va_P G vwCl (WC cy L K R I13 J13 E13 B13) H := hP1
              have hD : va_D A (WC cy L K R I13 J13 E13 B13) := hD1.weaken (fun _ _ _ h => hFc _ h)
              clear hFc hk1 hz1 hP1 hD1
              replace hC_0 := FI.tr hC_0 xu_13I (by decide)
              replace hX_5 := FI.tr hX_5 xu_13I (by decide)
              refine cp_5_4_9 hx hb ht hown hK hN hP hD hS hm_12.1 hm_12.2 dX9_prepare_54 (fun H locs hP hD hS => ?_)
              replace hI := IV.up hI hm_12.2 4 (ow_any r_u_13)
              have f_14 : FI [(5, 4)] K I13 (va_up I13 (R (R this 4) (Int32.toNatClampNeg x1_5)) (va_up (I13 (R (R this 4) (Int32.toNatClampNeg x1_5))) 4 r_u_13)) := FI.up hm_12.2 4 r_u_13
              have e_15 : (va_up I13 (R (R this 4) (Int32.toNatClampNeg x1_5)) (va_up (I13 (R (R this 4) (Int32.toNatClampNeg x1_5))) 4 r_u_13)) (R (R this 4) (Int32.toNatClampNeg x1_5)) 4 = r_u_13 := FI.at I13 (R (R this 4) (Int32.toNatClampNeg x1_5)) 4 r_u_13
              replace hC_0 := FI.tr hC_0 f_14 (by decide)
              replace hX_5 := FI.tr hX_5 f_14 (by decide)
              generalize (va_up I13 (R (R this 4) (Int32.toNatClampNeg x1_5)) (va_up (I13 (R (R this 4) (Int32.toNatClampNeg x1_5))) 4 r_u_13)) = I_16 at hP hD hI f_14 e_15 hC_0 hX_5
              refine lv_aload_n hx hb dX9_prepare_57 rfl (lv_at hl 1 rfl) ?_
              refine cg_1_4_9 hx hb ht hown hK hN hP hthis.1 hthis.2 dX9_prepare_58 ?_
              refine lv_iload_n hx hb dX9_prepare_61 rfl (lv_at hl 0 rfl) ?_
              have q_17 : vp_in x1_5 8 := vp_in_iff.mpr ⟨by omega, by omega⟩
              refine cl_32 hx hb hK hP hm_10.1 hm_10.2 q_17 dX9_prepare_62 ?_
              have hm_18 : (R (R this 4) (Int32.toNatClampNeg x1_5)) ∈ L ∧ K (R (R this 4) (Int32.toNatClampNeg x1_5)) = 5 := RT.a hRT hm_10.1 hm_10.2 (by decide) q_17
              refine lv_aload_n hx hb dX9_prepare_63 rfl (lv_at hl 1 rfl) ?_
              refine lv_iload_n hx hb dX9_prepare_64 rfl (lv_at hl 0 rfl) ?_
              refine lv_iconst (v := 1) hx hb dX9_prepare_65 (by decide) ?_
              have hFc := fr_free hD hS hA
              refine va_calli (va_runV (As := [.int x1_5, .int 1]) (rest := [.ref (R (R this 4) (Int32.toNatClampNeg x1_5))]) ⟨hx, hb, hml, hown, ht⟩ (c_never l G cy _ L K R T I_16 E13 J13 B13 this x1_5 (1) hRT hI hE hthis.1 hthis.2 (by omega) (by omega)) (cwV 2 ht (gv k_467 k_468 k_469 k_461 k_466) rfl rfl rfl (by decide +kernel) ⟨Nat.le_of_ble_eq_true rfl, Nat.le_of_ble_eq_true rfl⟩) ⟨En.blind, cr_1 hK hP hthis.1 hthis.2, fun U hU hW => ⟨rfl, En.of hU hW hP hK hD hN⟩⟩ rfl rfl hl.1 rfl (lv_room (Nat.le_of_ble_eq_true rfl)) dX9_prepare_66 ⟨Nat.le_of_ble_eq_true rfl, Nat.le_of_ble_eq_true rfl⟩) hS (fun q _ h => hFc q h) hFc (fun r_u_19 u_19 t9 H locs ht9 hvm hw hB hz1 hk1 hS => ?_)
              obtain ⟨I19, J19, E19, B19⟩ := u_19
              obtain ⟨hP1, hD1⟩ := hB
              rw [ht9] at hP1
              clear hI hE
              obtain ⟨hI, hE, xu_19I, wu_19⟩ := hw
              dsimp only at hI hE xu_19I wu_19
              have hP : va_P G vwCl (WC cy L K R I19 J19 E19 B19) H := hP1
              have hD : va_D A (WC cy L K R I19 J19 E19 B19) := hD1.weaken (fun _ _ _ h => hFc _ h)
              clear hFc hk1 hz1 hP1 hD1
              replace hC_0 := FI.tr hC_0 xu_19I (by decide)
              replace hX_5 := FI.tr hX_5 xu_19I (by decide)
              refine cp_5_5_9 hx hb ht hown hK hN hP hD hS hm_18.1 hm_18.2 dX9_prepare_69 (fun H locs hP hD hS => ?_)
              replace hI := IV.up hI hm_18.2 5 (ow_any r_u_19)
              have f_20 : FI [(5, 5)] K I19 (va_up I19 (R (R this 4) (Int32.toNatClampNeg x1_5)) (va_up (I19 (R (R this 4) (Int32.toNatClampNeg x1_5))) 5 r_u_19)) := FI.up hm_18.2 5 r_u_19
              have e_21 : (va_up I19 (R (R this 4) (Int32.toNatClampNeg x1_5)) (va_up (I19 (R (R this 4) (Int32.toNatClampNeg x1_5))) 5 r_u_19)) (R (R this 4) (Int32.toNatClampNeg x1_5)) 5 = r_u_19 := FI.at I19 (R (R this 4) (Int32.toNatClampNeg x1_5)) 5 r_u_19
              replace hC_0 := FI.tr hC_0 f_20 (by decide)
              replace hX_5 := FI.tr hX_5 f_20 (by decide)
              generalize (va_up I19 (R (R this 4) (Int32.toNatClampNeg x1_5)) (va_up (I19 (R (R this 4) (Int32.toNatClampNeg x1_5))) 5 r_u_19)) = I_22 at hP hD hI f_20 e_21 hC_0 hX_5
              obtain ⟨v_23, ev_23⟩ : ∃ y : Int32, y = x1_5 + 1 := ⟨_, rfl⟩
              refine lv_iinc (v := v_23) (lv' := [(1, .int v_23), (0, .ref this)]) hx hb dX9_prepare_72 hl (k := 0) rfl (by rw [ev_23]; rfl) (by decide) rfl (fun ls hl => ?_)
              have q_24 : v_23.toInt = x1_5.toInt + 1 := by have := ow_add ev_23 (by omega) (by omega); omega
              refine lv_goto (tgt := 34) hx hb dX9_prepare_75 (by decide) ?_
              refine W.widen (k := 0) (n := 0) (Nat.le_of_ble_eq_true rfl) (Nat.le_of_ble_eq_true rfl) ?_
              exact ih_5 v_23 I_22 J19 E19 B19 _ _ _ hI hE hX_5 (by omega) (by omega) hP hD hS (lv_sub hl [0, 1] rfl)
        exact lp_5 _ (0) I1 J1 E1 B1 _ _ _ hI hE FI.rf (by omega) (Nat.lt_succ_self _) hP hD hS (lv_sub hl [0, 1] rfl)
      · have q_25 : x1_1.toInt < (I this 3).toInt := by have := (not_congr (ow_le _ _)).mp c_3; omega
        refine lv_aload_n hx hb dX9_prepare_10 rfl (lv_at hl 1 rfl) ?_
        refine cg_1_2_9 hx hb ht hown hK hN hP hthis.1 hthis.2 dX9_prepare_11 ?_
        have hm_26 : (R this 2) ∈ L ∧ K (R this 2) = 31 := RT.o hRT hthis.1 hthis.2 2 (by decide)
        refine lv_iload_n hx hb dX9_prepare_14 rfl (lv_at hl 0 rfl) ?_
        have q_27 : vp_in x1_1 14 := vp_in_iff.mpr ⟨by omega, by omega⟩
        refine cl_31 hx hb hK hP hm_26.1 hm_26.2 q_27 dX9_prepare_15 ?_
        have hm_28 : (R (R this 2) (Int32.toNatClampNeg x1_1)) ∈ L ∧ K (R (R this 2) (Int32.toNatClampNeg x1_1)) = 4 := RT.a hRT hm_26.1 hm_26.2 (by decide) q_27
        refine lv_aload_n hx hb dX9_prepare_16 rfl (lv_at hl 1 rfl) ?_
        refine cg_1_0_9 hx hb ht hown hK hN hP hthis.1 hthis.2 dX9_prepare_17 ?_
        have hm_29 : (R this 0) ∈ L ∧ K (R this 0) = 29 := RT.o hRT hthis.1 hthis.2 0 (by decide)
        refine lv_iload_n hx hb dX9_prepare_20 rfl (lv_at hl 0 rfl) ?_
        have q_30 : vp_in x1_1 14 := vp_in_iff.mpr ⟨by omega, by omega⟩
        refine cl_29 hx hb hK hP hm_29.1 hm_29.2 q_30 dX9_prepare_21 ?_
        have hm_31 : (R (R this 0) (Int32.toNatClampNeg x1_1)) ∈ L ∧ K (R (R this 0) (Int32.toNatClampNeg x1_1)) = 2 := RT.a hRT hm_29.1 hm_29.2 (by decide) q_30
        refine lv_aload_n hx hb dX9_prepare_22 rfl (lv_at hl 1 rfl) ?_
        have hFc := fr_free hD hS hA
        refine va_callv (va_runV (As := [.ref (R (R this 0) (Int32.toNatClampNeg x1_1)), .ref this]) (rest := []) ⟨hx, hb, hml, hown, ht⟩ (c_hearAll2 l G cy _ L K R T I1 E1 J1 B1 (R (R this 2) (Int32.toNatClampNeg x1_1)) (R (R this 0) (Int32.toNatClampNeg x1_1)) this hRT hI hE hm_28.1 hm_28.2 hm_31.1 hm_31.2 hthis.1 hthis.2) (cwV 2 ht (gv k_471 k_472 k_473 k_431 k_470) rfl rfl rfl (by decide +kernel) ⟨Nat.le_of_ble_eq_true rfl, Nat.le_of_ble_eq_true rfl⟩) ⟨En.blind, cr_4 hK hP hm_28.1 hm_28.2, fun U hU hW => ⟨rfl, En.of hU hW hP hK hD hN⟩⟩ rfl rfl hl.1 rfl (lv_room (Nat.le_of_ble_eq_true rfl)) dX9_prepare_23 ⟨Nat.le_of_ble_eq_true rfl, Nat.le_of_ble_eq_true rfl⟩) hS (fun q _ h => hFc q h) hFc (fun u_32 t9 H locs ht9 hvm hw hB hz1 hk1 hS => ?_)
        obtain ⟨I32, J32, E32, B32⟩ := u_32
        obtain ⟨hP1, hD1⟩ := hB
        rw [ht9] at hP1
        clear hI hE
        obtain ⟨hI, hE, xu_32I, wu_32⟩ := hw
        dsimp only at hI hE xu_32I wu_32
        have hP : va_P G vwCl (WC cy L K R I32 J32 E32 B32) H := hP1
        have hD : va_D A (WC cy L K R I32 J32 E32 B32) := hD1.weaken (fun _ _ _ h => hFc _ h)
        clear hFc hk1 hz1 hP1 hD1
        replace hC_0 := FI.tr hC_0 xu_32I (by decide)
        replace hX_1 := FI.tr hX_1 xu_32I (by decide)
        obtain ⟨v_33, ev_33⟩ : ∃ y : Int32, y = x1_1 + 1 := ⟨_, rfl⟩
        refine lv_iinc (v := v_33) (lv' := [(1, .int v_33), (0, .ref this)]) hx hb dX9_prepare_26 hl (k := 0) rfl (by rw [ev_33]; rfl) (by decide) rfl (fun ls hl => ?_)
        have q_34 : v_33.toInt = x1_1.toInt + 1 := by have := ow_add ev_33 (by omega) (by omega); omega
        refine lv_goto (tgt := 2) hx hb dX9_prepare_29 (by decide) ?_
        refine W.widen (k := 0) (n := 0) (Nat.le_of_ble_eq_true rfl) (Nat.le_of_ble_eq_true rfl) ?_
        exact ih_1 v_33 I32 J32 E32 B32 _ _ _ hI hE hX_1 (by omega) (by omega) hP hD hS (lv_sub hl [0, 1] rfl)
  exact lp_1 _ (0) I J E B _ _ _ hI hE FI.rf (by omega) (Nat.lt_succ_self _) hP hD hS (lv_sub hl [0, 1] rfl)
set_option maxHeartbeats 4000000 in
set_option maxRecDepth 100000 in
theorem c_tisIn (l : Launch) (G : va_G) (cy : Nat → ClassId) (sz : Nat) (L : List Nat) (K : Nat → Nat) (R : Nat → Nat → Nat) (T : Int) (I E : Nat → Nat → Int32) (J B : Nat → Nat → Int64) (this : Nat) (n : Int32) (n2 : Int32) (n3 : Int32) (hRT : RT L K R) (hI : IV T L K I) (hE : EV L K E) (hthis1 : this ∈ L) (hthis2 : K this = 1) (h_n : 0 ≤ n.toInt ∧ n.toInt ≤ 13) (h_n2 : 0 ≤ n2.toInt ∧ n2.toInt ≤ 13) : Met l yX9_isIn (.code yX9_isIn cX9_isIn 5 (some .boolean) :: TBg) ({ frames := 1, cells := 0, slots := 0, locals := 64 }) (va_Pc [.ref this, .int n, .int n2, .int n3] (En G cy (WC cy L K R I J E B) sz)) (va_Qi (fun (r : Int32) (_ : Unit) => (r.toInt = 0 ∨ r.toInt = 1)) (fun _ _ => True) (va_A [] sz)) 0 0 (va_A [] sz) := by
  have hthis : this ∈ L ∧ K this = 1 := ⟨hthis1, hthis2⟩
  refine Met.ofW (cc := cX9_isIn) (maxL := 5) (ret := (some .boolean)) (by decide) rfl ?_
  intro p e s m args below meth c s₁ B9 hml hv9
  obtain ⟨rfl, hsz, hP, hK, hD0, hN⟩ := hv9
  have hx := B9.exec
  have hb := B9.bytes
  have hr := B9.returns
  have hts := atoms_spec (ws := .code yX9_isIn cX9_isIn 5 (some .boolean) :: TBg) B9.pre
  have ht : ∀ w ∈ TBg, w.before _ s = true := fun w h => hts w (List.mem_cons_of_mem _ h)
  have hown : s.vm.findClass RX9 = some m.cls := findClass_of_methodNamed B9.named
  have hlocks := B9.notSynchronized
  subst hsz
  generalize hAe : va_A [] s.heap.size = A at ⊢
  have hA : ∀ q : Nat, s.heap.size ≤ q → A q := fun q h => by rw [← hAe]; exact Or.inr h
  have hS : va_S A s.heap s.heap [] := va_S.rf
  have hl := lv_entry ([.ref this, .int n, .int n2, .int n3]) (n := 5) (Nat.le_of_ble_eq_true rfl)
  rw [lg_entry_eq]
  generalize (lg_sl ([.ref this, .int n, .int n2, .int n3]) ++ List.replicate (5 - (lg_sl ([.ref this, .int n, .int n2, .int n3])).length) Slot.unset).toArray = ls at hl ⊢
  have hl : lv_has ls 5 [(0, .ref this), (1, .int n), (2, .int n2), (3, .int n3)] := hl
  have z0 : (-1 : Int32).toInt = -1 := by decide
  have z1 : (0 : Int32).toInt = 0 := by decide
  have z2 : (1 : Int32).toInt = 1 := by decide
  refine lv_aload_n hx hb dX9_isIn_0 rfl (lv_at hl 0 rfl) ?_
  refine cg_1_2_9 hx hb ht hown hK hN hP hthis.1 hthis.2 dX9_isIn_1 ?_
  have hm_1 : (R this 2) ∈ L ∧ K (R this 2) = 31 := RT.o hRT hthis.1 hthis.2 2 (by decide)
  refine lv_iload_n hx hb dX9_isIn_4 rfl (lv_at hl 2 rfl) ?_
  have q_2 : vp_in n2 14 := vp_in_iff.mpr ⟨by omega, by omega⟩
  refine cl_31 hx hb hK hP hm_1.1 hm_1.2 q_2 dX9_isIn_5 ?_
  have hm_3 : (R (R this 2) (Int32.toNatClampNeg n2)) ∈ L ∧ K (R (R this 2) (Int32.toNatClampNeg n2)) = 4 := RT.a hRT hm_1.1 hm_1.2 (by decide) q_2
  refine cg_4_1_9 hx hb ht hown hK hN hP hm_3.1 hm_3.2 dX9_isIn_6 ?_
  have hm_4 : (R (R (R this 2) (Int32.toNatClampNeg n2)) 1) ∈ L ∧ K (R (R (R this 2) (Int32.toNatClampNeg n2)) 1) = 25 := RT.o hRT hm_3.1 hm_3.2 1 (by decide)
  refine lv_iload_n hx hb dX9_isIn_9 rfl (lv_at hl 1 rfl) ?_
  have q_5 : vp_in n 14 := vp_in_iff.mpr ⟨by omega, by omega⟩
  refine cl_25 hx hb hK hP hm_4.1 hm_4.2 q_5 dX9_isIn_10 ?_
  refine lv_topi (fun v_6 ev_6 => ?_)
  refine lv_istore (lv' := [(4, .int v_6), (0, .ref this), (1, .int n), (2, .int n2), (3, .int n3)]) hx hb dX9_isIn_11 hl (by decide) rfl (fun ls hl => ?_)
  refine lv_iload hx hb dX9_isIn_13 (lv_at hl 0 rfl) ?_
  refine lv_iconst (v := (-1)) hx hb dX9_isIn_15 (by decide) ?_
  refine lv_icmp_eq (tgt := 29) hx hb dX9_isIn_16 (by decide) (fun c_7 => ?_) (fun c_7 => ?_)
  · have q_8 : v_6.toInt = ((-1) : Int32).toInt := (ow_eq _ _).mp c_7
    refine lv_iconst (v := 0) hx hb dX9_isIn_29 (by decide) ?_
    refine W.widen (k := 0) (n := 0) (Nat.le_of_ble_eq_true rfl) (Nat.le_of_ble_eq_true rfl) ?_
    exact W.zret (v := 0) hx hb hr rfl (fun t ht9 hW => ⟨⟨0, (), rfl, (by omega), trivial⟩, hS.F ht9⟩) hS.2.2 dX9_isIn_30
  · have q_9 : ¬ v_6.toInt = ((-1) : Int32).toInt := by have := (not_congr (ow_eq _ _)).mp c_7; omega
    refine lv_iload hx hb dX9_isIn_19 (lv_at hl 0 rfl) ?_
    refine lv_iload_n hx hb dX9_isIn_21 rfl (lv_at hl 4 rfl) ?_
    refine lv_icmp_gt (tgt := 29) hx hb dX9_isIn_22 (by decide) (fun c_10 => ?_) (fun c_10 => ?_)
    · have q_11 : n3.toInt < v_6.toInt := (ow_lt _ _).mp c_10
      refine lv_iconst (v := 0) hx hb dX9_isIn_29 (by decide) ?_
      refine W.widen (k := 0) (n := 0) (Nat.le_of_ble_eq_true rfl) (Nat.le_of_ble_eq_true rfl) ?_
      exact W.zret (v := 0) hx hb hr rfl (fun t ht9 hW => ⟨⟨0, (), rfl, (by omega), trivial⟩, hS.F ht9⟩) hS.2.2 dX9_isIn_30
    · have q_12 : v_6.toInt ≤ n3.toInt := by have := (not_congr (ow_lt _ _)).mp c_10; omega
      refine lv_iconst (v := 1) hx hb dX9_isIn_25 (by decide) ?_
      refine lv_goto (tgt := 30) hx hb dX9_isIn_26 (by decide) ?_
      refine W.widen (k := 0) (n := 0) (Nat.le_of_ble_eq_true rfl) (Nat.le_of_ble_eq_true rfl) ?_
      exact W.zret (v := 1) hx hb hr rfl (fun t ht9 hW => ⟨⟨1, (), rfl, (by omega), trivial⟩, hS.F ht9⟩) hS.2.2 dX9_isIn_30
set_option maxHeartbeats 4000000 in
set_option maxRecDepth 100000 in
theorem c_tisNear (l : Launch) (G : va_G) (cy : Nat → ClassId) (sz : Nat) (L : List Nat) (K : Nat → Nat) (R : Nat → Nat → Nat) (T : Int) (I E : Nat → Nat → Int32) (J B : Nat → Nat → Int64) (this : Nat) (n : Int32) (n2 : Int32) (n3 : Int32) (hRT : RT L K R) (hI : IV T L K I) (hE : EV L K E) (hthis1 : this ∈ L) (hthis2 : K this = 1) (h_n : 0 ≤ n.toInt ∧ n.toInt ≤ 13) (h_n2 : 0 ≤ n2.toInt ∧ n2.toInt ≤ 13) : Met l yX9_isNear (.code yX9_isNear cX9_isNear 4 (some .boolean) :: TBg) ({ frames := 2, cells := 0, slots := 0, locals := 128 }) (va_Pc [.ref this, .int n, .int n2, .int n3] (En G cy (WC cy L K R I J E B) sz)) (va_Qi (fun (r : Int32) (_ : Unit) => (r.toInt = 0 ∨ r.toInt = 1)) (fun _ _ => True) (va_A [] sz)) 0 0 (va_A [] sz) := by
  have hthis : this ∈ L ∧ K this = 1 := ⟨hthis1, hthis2⟩
  refine Met.ofW (cc := cX9_isNear) (maxL := 4) (ret := (some .boolean)) (by decide) rfl ?_
  intro p e s m args below meth c s₁ B9 hml hv9
  obtain ⟨rfl, hsz, hP, hK, hD0, hN⟩ := hv9
  have hx := B9.exec
  have hb := B9.bytes
  have hr := B9.returns
  have hts := atoms_spec (ws := .code yX9_isNear cX9_isNear 4 (some .boolean) :: TBg) B9.pre
  have ht : ∀ w ∈ TBg, w.before _ s = true := fun w h => hts w (List.mem_cons_of_mem _ h)
  have hown : s.vm.findClass RX9 = some m.cls := findClass_of_methodNamed B9.named
  have hlocks := B9.notSynchronized
  subst hsz
  generalize hAe : va_A [] s.heap.size = A at ⊢
  have hA : ∀ q : Nat, s.heap.size ≤ q → A q := fun q h => by rw [← hAe]; exact Or.inr h
  have hS : va_S A s.heap s.heap [] := va_S.rf
  have hl := lv_entry ([.ref this, .int n, .int n2, .int n3]) (n := 4) (Nat.le_of_ble_eq_true rfl)
  rw [lg_entry_eq]
  generalize (lg_sl ([.ref this, .int n, .int n2, .int n3]) ++ List.replicate (4 - (lg_sl ([.ref this, .int n, .int n2, .int n3])).length) Slot.unset).toArray = ls at hl ⊢
  have hl : lv_has ls 4 [(0, .ref this), (1, .int n), (2, .int n2), (3, .int n3)] := hl
  have z0 : (0 : Int32).toInt = 0 := by decide
  have z1 : (1 : Int32).toInt = 1 := by decide
  refine lv_aload_n hx hb dX9_isNear_0 rfl (lv_at hl 0 rfl) ?_
  refine lv_iload_n hx hb dX9_isNear_1 rfl (lv_at hl 1 rfl) ?_
  refine lv_iload_n hx hb dX9_isNear_2 rfl (lv_at hl 2 rfl) ?_
  refine lv_iload_n hx hb dX9_isNear_3 rfl (lv_at hl 3 rfl) ?_
  have hFc := fr_new hS hA
  refine va_calli (va_runV (As := [.int n, .int n2, .int n3]) (rest := []) ⟨hx, hb, hml, hown, ht⟩ (c_tisIn l G cy _ L K R T I E J B this n n2 n3 hRT hI hE hthis.1 hthis.2 (by omega) (by omega)) (cwV 3 ht (gv k_475 k_476 k_477 k_461 k_474) rfl rfl rfl (by decide +kernel) ⟨Nat.le_of_ble_eq_true rfl, Nat.le_of_ble_eq_true rfl⟩) ⟨En.blind, cr_1 hK hP hthis.1 hthis.2, fun U hU hW => ⟨rfl, En.of hU hW hP hK hD0 hN⟩⟩ rfl rfl hl.1 rfl (lv_room (Nat.le_of_ble_eq_true rfl)) dX9_isNear_4 ⟨Nat.le_of_ble_eq_true rfl, Nat.le_of_ble_eq_true rfl⟩) hS (fun q _ h => hFc q h) hFc (fun r_u_1 u_1 t9 H locs ht9 hvm hw hB hz1 hk1 hS => ?_)
  have hP := fr_keep hP hk1
  have wu_1 := hw
  clear hFc hk1 hz1 hB hw
  refine lv_if_ne (tgt := 20) hx hb dX9_isNear_7 (by decide) (fun c_2 => ?_) (fun c_2 => ?_)
  · have q_3 : ¬ r_u_1.toInt = (0 : Int32).toInt := by have := (not_congr (ow_eq _ _)).mp c_2; omega
    refine lv_iconst (v := 1) hx hb dX9_isNear_20 (by decide) ?_
    refine lv_goto (tgt := 25) hx hb dX9_isNear_21 (by decide) ?_
    refine W.widen (k := 0) (n := 0) (Nat.le_of_ble_eq_true rfl) (Nat.le_of_ble_eq_true rfl) ?_
    exact W.zret (v := 1) hx hb hr rfl (fun t ht9 hW => ⟨⟨1, (), rfl, (by omega), trivial⟩, hS.F ht9⟩) hS.2.2 dX9_isNear_25
  · have q_4 : r_u_1.toInt = (0 : Int32).toInt := (ow_eq _ _).mp c_2
    refine lv_aload_n hx hb dX9_isNear_10 rfl (lv_at hl 0 rfl) ?_
    refine lv_iload_n hx hb dX9_isNear_11 rfl (lv_at hl 2 rfl) ?_
    refine lv_iload_n hx hb dX9_isNear_12 rfl (lv_at hl 1 rfl) ?_
    refine lv_iload_n hx hb dX9_isNear_13 rfl (lv_at hl 3 rfl) ?_
    have hFc := fr_new hS hA
    refine va_calli (va_runV (As := [.int n2, .int n, .int n3]) (rest := []) ⟨hx, hb, hml, hown, ht⟩ (c_tisIn l G cy _ L K R T I E J B this n2 n n3 hRT hI hE hthis.1 hthis.2 (by omega) (by omega)) (cwV 3 ht (gv k_475 k_476 k_477 k_461 k_474) rfl rfl rfl (by decide +kernel) ⟨Nat.le_of_ble_eq_true rfl, Nat.le_of_ble_eq_true rfl⟩) ⟨En.blind, cr_1 hK hP hthis.1 hthis.2, fun U hU hW => ⟨rfl, En.of hU hW hP hK hD0 hN⟩⟩ rfl rfl hl.1 rfl (lv_room (Nat.le_of_ble_eq_true rfl)) dX9_isNear_14 ⟨Nat.le_of_ble_eq_true rfl, Nat.le_of_ble_eq_true rfl⟩) hS (fun q _ h => hFc q h) hFc (fun r_u_5 u_5 t9 H locs ht9 hvm hw hB hz1 hk1 hS => ?_)
    have hP := fr_keep hP hk1
    have wu_5 := hw
    clear hFc hk1 hz1 hB hw
    refine lv_if_eq (tgt := 24) hx hb dX9_isNear_17 (by decide) (fun c_6 => ?_) (fun c_6 => ?_)
    · have q_7 : r_u_5.toInt = (0 : Int32).toInt := (ow_eq _ _).mp c_6
      refine lv_iconst (v := 0) hx hb dX9_isNear_24 (by decide) ?_
      refine W.widen (k := 0) (n := 0) (Nat.le_of_ble_eq_true rfl) (Nat.le_of_ble_eq_true rfl) ?_
      exact W.zret (v := 0) hx hb hr rfl (fun t ht9 hW => ⟨⟨0, (), rfl, (by omega), trivial⟩, hS.F ht9⟩) hS.2.2 dX9_isNear_25
    · have q_8 : ¬ r_u_5.toInt = (0 : Int32).toInt := by have := (not_congr (ow_eq _ _)).mp c_6; omega
      refine lv_iconst (v := 1) hx hb dX9_isNear_20 (by decide) ?_
      refine lv_goto (tgt := 25) hx hb dX9_isNear_21 (by decide) ?_
      refine W.widen (k := 0) (n := 0) (Nat.le_of_ble_eq_true rfl) (Nat.le_of_ble_eq_true rfl) ?_
      exact W.zret (v := 1) hx hb hr rfl (fun t ht9 hW => ⟨⟨1, (), rfl, (by omega), trivial⟩, hS.F ht9⟩) hS.2.2 dX9_isNear_25
set_option maxHeartbeats 4000000 in
set_option maxRecDepth 100000 in
theorem c_wclear (l : Launch) (G : va_G) (cy : Nat → ClassId) (sz : Nat) (L : List Nat) (K : Nat → Nat) (R : Nat → Nat → Nat) (T : Int) (I E : Nat → Nat → Int32) (J B : Nat → Nat → Int64) (this : Nat)  (hRT : RT L K R) (hI : IV T L K I) (hE : EV L K E) (hthis1 : this ∈ L) (hthis2 : K this = 8) : Met l yX10_clear (.code yX10_clear cX10_clear 1 none :: TBg) ({ frames := 1, cells := 0, slots := 0, locals := 64 }) (va_Pc [.ref this] (En G cy (WC cy L K R I J E B) sz)) (va_Qv (fun (u : (Nat → Nat → Int32) × (Nat → Nat → Int64) × (Nat → Nat → Int32) × (Nat → Nat → Int64)) => IV T L K u.1 ∧ EV L K u.2.2.1 ∧ FI [(8, 5)] K I u.1 ∧ (True)) (fun u t => Ex G (va_A (WC cy L K R I J E B) sz) (WC cy L K R u.1 u.2.1 u.2.2.1 u.2.2.2) t) (va_A (WC cy L K R I J E B) sz)) 0 0 (va_A (WC cy L K R I J E B) sz) := by
  have hthis : this ∈ L ∧ K this = 8 := ⟨hthis1, hthis2⟩
  refine Met.ofW (cc := cX10_clear) (maxL := 1) (ret := none) (by decide) rfl ?_
  intro p e s m args below meth c s₁ B9 hml hv9
  obtain ⟨rfl, hsz, hP, hK, hD0, hN⟩ := hv9
  have hx := B9.exec
  have hb := B9.bytes
  have hr := B9.returns
  have hts := atoms_spec (ws := .code yX10_clear cX10_clear 1 none :: TBg) B9.pre
  have ht : ∀ w ∈ TBg, w.before _ s = true := fun w h => hts w (List.mem_cons_of_mem _ h)
  have hown : s.vm.findClass RX10 = some m.cls := findClass_of_methodNamed B9.named
  have hlocks := B9.notSynchronized
  subst hsz
  have hD := hD0.self (sz := s.heap.size)
  generalize hAe : va_A (WC cy L K R I J E B) s.heap.size = A at hD ⊢
  have hA : ∀ q : Nat, s.heap.size ≤ q → A q := fun q h => by rw [← hAe]; exact Or.inr h
  have hS : va_S A s.heap s.heap [] := va_S.rf
  have hl := lv_entry ([.ref this]) (n := 1) (Nat.le_of_ble_eq_true rfl)
  rw [lg_entry_eq]
  generalize (lg_sl ([.ref this]) ++ List.replicate (1 - (lg_sl ([.ref this])).length) Slot.unset).toArray = ls at hl ⊢
  have hl : lv_has ls 1 [(0, .ref this)] := hl
  have z0 : (0 : Int32).toInt = 0 := by decide
  have hC_0 : FI [(8, 5)] K I I := FI.rf
  refine lv_aload_n hx hb dX10_clear_0 rfl (lv_at hl 0 rfl) ?_
  refine lv_iconst (v := 0) hx hb dX10_clear_1 (by decide) ?_
  refine cp_8_5_10 hx hb ht hown hK hN hP hD hS hthis.1 hthis.2 dX10_clear_2 (fun H locs hP hD hS => ?_)
  replace hI := IV.up hI hthis.2 5 (show 0 ≤ (0 : Int32).toInt ∧ (0 : Int32).toInt ≤ 30 from by omega)
  have f_1 : FI [(8, 5)] K I (va_up I this (va_up (I this) 5 0)) := FI.up hthis.2 5 (0 : Int32)
  have e_2 : (va_up I this (va_up (I this) 5 0)) this 5 = 0 := FI.at I this 5 (0 : Int32)
  replace hC_0 := FI.tr hC_0 f_1 (by decide)
  generalize (va_up I this (va_up (I this) 5 0)) = I_3 at hP hD hI f_1 e_2 hC_0
  refine W.widen (k := 0) (n := 0) (Nat.le_of_ble_eq_true rfl) (Nat.le_of_ble_eq_true rfl) ?_
  exact W.vret hx hb hr (fun t ht9 hW => ⟨⟨(I_3, J, E, B), rfl, ⟨hI, hE, hC_0, trivial⟩, ⟨by rw [ht9]; exact hP, hD⟩⟩, hS.F ht9⟩) hS.2.2 dX10_clear_5
set_option maxHeartbeats 4000000 in
set_option maxRecDepth 100000 in
theorem c_tell (l : Launch) (G : va_G) (cy : Nat → ClassId) (sz : Nat) (L : List Nat) (K : Nat → Nat) (R : Nat → Nat → Nat) (T : Int) (I E : Nat → Nat → Int32) (J B : Nat → Nat → Int64) (this : Nat) (n : Int32) (n2 : Int32) (n3 : Int32) (n4 : Int32) (hRT : RT L K R) (hI : IV T L K I) (hE : EV L K E) (hthis1 : this ∈ L) (hthis2 : K this = 8) (h_n2 : 0 ≤ n2.toInt ∧ n2.toInt ≤ 1) (h_n3 : 0 ≤ n3.toInt ∧ n3.toInt ≤ 1) : Met l yX10_tell (.code yX10_tell cX10_tell 5 (some .int) :: TBg) ({ frames := 1, cells := 0, slots := 0, locals := 64 }) (va_Pc [.ref this, .int n, .int n2, .int n3, .int n4] (En G cy (WC cy L K R I J E B) sz)) (va_Qi (fun (r : Int32) (u : (Nat → Nat → Int32) × (Nat → Nat → Int64) × (Nat → Nat → Int32) × (Nat → Nat → Int64)) => IV T L K u.1 ∧ EV L K u.2.2.1 ∧ FI [(8, 5)] K I u.1 ∧ (True)) (fun u t => Ex G (va_A (WC cy L K R I J E B) sz) (WC cy L K R u.1 u.2.1 u.2.2.1 u.2.2.2) t) (va_A (WC cy L K R I J E B) sz)) 0 0 (va_A (WC cy L K R I J E B) sz) := by
  have hthis : this ∈ L ∧ K this = 8 := ⟨hthis1, hthis2⟩
  refine Met.ofW (cc := cX10_tell) (maxL := 5) (ret := (some .int)) (by decide) rfl ?_
  intro p e s m args below meth c s₁ B9 hml hv9
  obtain ⟨rfl, hsz, hP, hK, hD0, hN⟩ := hv9
  have hx := B9.exec
  have hb := B9.bytes
  have hr := B9.returns
  have hts := atoms_spec (ws := .code yX10_tell cX10_tell 5 (some .int) :: TBg) B9.pre
  have ht : ∀ w ∈ TBg, w.before _ s = true := fun w h => hts w (List.mem_cons_of_mem _ h)
  have hown : s.vm.findClass RX10 = some m.cls := findClass_of_methodNamed B9.named
  have hlocks := B9.notSynchronized
  subst hsz
  have hD := hD0.self (sz := s.heap.size)
  generalize hAe : va_A (WC cy L K R I J E B) s.heap.size = A at hD ⊢
  have hA : ∀ q : Nat, s.heap.size ≤ q → A q := fun q h => by rw [← hAe]; exact Or.inr h
  have hS : va_S A s.heap s.heap [] := va_S.rf
  have hl := lv_entry ([.ref this, .int n, .int n2, .int n3, .int n4]) (n := 5) (Nat.le_of_ble_eq_true rfl)
  rw [lg_entry_eq]
  generalize (lg_sl ([.ref this, .int n, .int n2, .int n3, .int n4]) ++ List.replicate (5 - (lg_sl ([.ref this, .int n, .int n2, .int n3, .int n4])).length) Slot.unset).toArray = ls at hl ⊢
  have hl : lv_has ls 5 [(0, .ref this), (1, .int n), (2, .int n2), (3, .int n3), (4, .int n4)] := hl
  have z0 : (-1 : Int32).toInt = -1 := by decide
  have z1 : (1 : Int32).toInt = 1 := by decide
  have z2 : (30 : Int32).toInt = 30 := by decide
  have hC_0 : FI [(8, 5)] K I I := FI.rf
  refine lv_aload_n hx hb dX10_tell_0 rfl (lv_at hl 0 rfl) ?_
  refine cg_8_5_10 hx hb ht hown hK hN hP hthis.1 hthis.2 dX10_tell_1 ?_
  have q_1 : 0 ≤ (I this 5).toInt ∧ (I this 5).toInt ≤ 30 := IV.rd hI hthis.1 hthis.2 5
  refine lv_bipush (v := 30) hx hb dX10_tell_4 (by decide) ?_
  refine lv_icmp_lt (tgt := 11) hx hb dX10_tell_6 (by decide) (fun c_2 => ?_) (fun c_2 => ?_)
  · have q_3 : (I this 5).toInt < (30 : Int32).toInt := (ow_lt _ _).mp c_2
    refine lv_aload_n hx hb dX10_tell_11 rfl (lv_at hl 0 rfl) ?_
    refine cg_8_0_10 hx hb ht hown hK hN hP hthis.1 hthis.2 dX10_tell_12 ?_
    have hm_4 : (R this 0) ∈ L ∧ K (R this 0) = 36 := RT.o hRT hthis.1 hthis.2 0 (by decide)
    refine lv_aload_n hx hb dX10_tell_15 rfl (lv_at hl 0 rfl) ?_
    refine cg_8_5_10 hx hb ht hown hK hN hP hthis.1 hthis.2 dX10_tell_16 ?_
    refine lv_iload_n hx hb dX10_tell_19 rfl (lv_at hl 1 rfl) ?_
    have q_5 : vp_in (I this 5) 30 := vp_in_iff.mpr ⟨by omega, by omega⟩
    refine cs_36 hx hb hK hP hD hS hm_4.1 hm_4.2 q_5 dX10_tell_20 (fun H locs hP hD hS => ?_)
    replace hE := EV.up hE hm_4.2 (i := (Int32.toNatClampNeg (I this 5))) (ow_any n)
    generalize (va_up E (R this 0) (upd (E (R this 0)) (Int32.toNatClampNeg (I this 5)) n)) = E_6 at hP hD hE
    refine lv_aload_n hx hb dX10_tell_21 rfl (lv_at hl 0 rfl) ?_
    refine cg_8_1_10 hx hb ht hown hK hN hP hthis.1 hthis.2 dX10_tell_22 ?_
    have hm_7 : (R this 1) ∈ L ∧ K (R this 1) = 37 := RT.o hRT hthis.1 hthis.2 1 (by decide)
    refine lv_aload_n hx hb dX10_tell_25 rfl (lv_at hl 0 rfl) ?_
    refine cg_8_5_10 hx hb ht hown hK hN hP hthis.1 hthis.2 dX10_tell_26 ?_
    refine lv_iload_n hx hb dX10_tell_29 rfl (lv_at hl 2 rfl) ?_
    have q_8 : vp_in (I this 5) 30 := vp_in_iff.mpr ⟨by omega, by omega⟩
    refine cs_37 hx hb hK hP hD hS hm_7.1 hm_7.2 q_8 dX10_tell_30 (fun H locs hP hD hS => ?_)
    replace hE := EV.up hE hm_7.2 (i := (Int32.toNatClampNeg (I this 5))) (ow_nz n2)
    generalize (va_up E_6 (R this 1) (upd (E_6 (R this 1)) (Int32.toNatClampNeg (I this 5)) (vp_nar .boolean n2))) = E_9 at hP hD hE
    refine lv_aload_n hx hb dX10_tell_31 rfl (lv_at hl 0 rfl) ?_
    refine cg_8_2_10 hx hb ht hown hK hN hP hthis.1 hthis.2 dX10_tell_32 ?_
    have hm_10 : (R this 2) ∈ L ∧ K (R this 2) = 37 := RT.o hRT hthis.1 hthis.2 2 (by decide)
    refine lv_aload_n hx hb dX10_tell_35 rfl (lv_at hl 0 rfl) ?_
    refine cg_8_5_10 hx hb ht hown hK hN hP hthis.1 hthis.2 dX10_tell_36 ?_
    refine lv_iload_n hx hb dX10_tell_39 rfl (lv_at hl 3 rfl) ?_
    have q_11 : vp_in (I this 5) 30 := vp_in_iff.mpr ⟨by omega, by omega⟩
    refine cs_37 hx hb hK hP hD hS hm_10.1 hm_10.2 q_11 dX10_tell_40 (fun H locs hP hD hS => ?_)
    replace hE := EV.up hE hm_10.2 (i := (Int32.toNatClampNeg (I this 5))) (ow_nz n3)
    generalize (va_up E_9 (R this 2) (upd (E_9 (R this 2)) (Int32.toNatClampNeg (I this 5)) (vp_nar .boolean n3))) = E_12 at hP hD hE
    refine lv_aload_n hx hb dX10_tell_41 rfl (lv_at hl 0 rfl) ?_
    refine cg_8_3_10 hx hb ht hown hK hN hP hthis.1 hthis.2 dX10_tell_42 ?_
    have hm_13 : (R this 3) ∈ L ∧ K (R this 3) = 38 := RT.o hRT hthis.1 hthis.2 3 (by decide)
    refine lv_aload_n hx hb dX10_tell_45 rfl (lv_at hl 0 rfl) ?_
    refine cg_8_5_10 hx hb ht hown hK hN hP hthis.1 hthis.2 dX10_tell_46 ?_
    refine lv_iload hx hb dX10_tell_49 (lv_at hl 4 rfl) ?_
    have q_14 : vp_in (I this 5) 30 := vp_in_iff.mpr ⟨by omega, by omega⟩
    refine cs_38 hx hb hK hP hD hS hm_13.1 hm_13.2 q_14 dX10_tell_51 (fun H locs hP hD hS => ?_)
    replace hE := EV.up hE hm_13.2 (i := (Int32.toNatClampNeg (I this 5))) (ow_any n4)
    generalize (va_up E_12 (R this 3) (upd (E_12 (R this 3)) (Int32.toNatClampNeg (I this 5)) n4)) = E_15 at hP hD hE
    refine lv_aload_n hx hb dX10_tell_52 rfl (lv_at hl 0 rfl) ?_
    refine cg_8_4_10 hx hb ht hown hK hN hP hthis.1 hthis.2 dX10_tell_53 ?_
    have hm_16 : (R this 4) ∈ L ∧ K (R this 4) = 38 := RT.o hRT hthis.1 hthis.2 4 (by decide)
    refine lv_aload_n hx hb dX10_tell_56 rfl (lv_at hl 0 rfl) ?_
    refine cg_8_5_10 hx hb ht hown hK hN hP hthis.1 hthis.2 dX10_tell_57 ?_
    refine lv_iconst (v := (-1)) hx hb dX10_tell_60 (by decide) ?_
    have q_17 : vp_in (I this 5) 30 := vp_in_iff.mpr ⟨by omega, by omega⟩
    refine cs_38 hx hb hK hP hD hS hm_16.1 hm_16.2 q_17 dX10_tell_61 (fun H locs hP hD hS => ?_)
    replace hE := EV.up hE hm_16.2 (i := (Int32.toNatClampNeg (I this 5))) (ow_any ((-1) : Int32))
    generalize (va_up E_15 (R this 4) (upd (E_15 (R this 4)) (Int32.toNatClampNeg (I this 5)) (-1))) = E_18 at hP hD hE
    refine lv_aload_n hx hb dX10_tell_62 rfl (lv_at hl 0 rfl) ?_
    refine lv_dup hx hb dX10_tell_63 rfl ?_
    refine cg_8_5_10 hx hb ht hown hK hN hP hthis.1 hthis.2 dX10_tell_64 ?_
    refine lv_iconst (v := 1) hx hb dX10_tell_67 (by decide) ?_
    refine lv_iadd hx hb dX10_tell_68 ?_
    refine lv_topi (fun v_19 ev_19 => ?_)
    have q_20 : v_19.toInt = (I this 5).toInt + (1 : Int32).toInt := ow_add ev_19 (by omega) (by omega)
    refine cp_8_5_10 hx hb ht hown hK hN hP hD hS hthis.1 hthis.2 dX10_tell_69 (fun H locs hP hD hS => ?_)
    replace hI := IV.up hI hthis.2 5 (show 0 ≤ v_19.toInt ∧ v_19.toInt ≤ 30 from by omega)
    have f_21 : FI [(8, 5)] K I (va_up I this (va_up (I this) 5 v_19)) := FI.up hthis.2 5 v_19
    have e_22 : (va_up I this (va_up (I this) 5 v_19)) this 5 = v_19 := FI.at I this 5 v_19
    replace hC_0 := FI.tr hC_0 f_21 (by decide)
    generalize (va_up I this (va_up (I this) 5 v_19)) = I_23 at hP hD hI f_21 e_22 hC_0
    refine lv_aload_n hx hb dX10_tell_72 rfl (lv_at hl 0 rfl) ?_
    refine cg_8_5_10 hx hb ht hown hK hN hP hthis.1 hthis.2 dX10_tell_73 ?_
    refine ow_top v_19 e_22 ?_
    have q_24 : 0 ≤ v_19.toInt ∧ v_19.toInt ≤ 30 := by have h9 : I_23 this 5 = v_19 := e_22; rw [← h9]; exact IV.rd hI hthis.1 hthis.2 5
    refine lv_iconst (v := 1) hx hb dX10_tell_76 (by decide) ?_
    refine lv_isub hx hb dX10_tell_77 ?_
    refine lv_topi (fun v_25 ev_25 => ?_)
    have q_26 : v_25.toInt = v_19.toInt - (1 : Int32).toInt := ow_sub ev_25 (by omega) (by omega)
    refine W.widen (k := 0) (n := 0) (Nat.le_of_ble_eq_true rfl) (Nat.le_of_ble_eq_true rfl) ?_
    exact W.iret (v := v_25) hx hb hr (fun t ht9 hW => ⟨⟨v_25, (I_23, J, E_18, B), rfl, ⟨hI, hE, hC_0, trivial⟩, ⟨by rw [ht9]; exact hP, hD⟩⟩, hS.F ht9⟩) hS.2.2 dX10_tell_78
  · have q_27 : (30 : Int32).toInt ≤ (I this 5).toInt := by have := (not_congr (ow_lt _ _)).mp c_2; omega
    refine lv_iconst (v := (-1)) hx hb dX10_tell_9 (by decide) ?_
    refine W.widen (k := 0) (n := 0) (Nat.le_of_ble_eq_true rfl) (Nat.le_of_ble_eq_true rfl) ?_
    exact W.iret (v := (-1)) hx hb hr (fun t ht9 hW => ⟨⟨(-1), (I, J, E, B), rfl, ⟨hI, hE, hC_0, trivial⟩, ⟨by rw [ht9]; exact hP, hD⟩⟩, hS.F ht9⟩) hS.2.2 dX10_tell_10
set_option maxHeartbeats 4000000 in
set_option maxRecDepth 100000 in
theorem c_takeBack (l : Launch) (G : va_G) (cy : Nat → ClassId) (sz : Nat) (L : List Nat) (K : Nat → Nat) (R : Nat → Nat → Nat) (T : Int) (I E : Nat → Nat → Int32) (J B : Nat → Nat → Int64) (this : Nat) (n : Int32) (n2 : Int32) (hRT : RT L K R) (hI : IV T L K I) (hE : EV L K E) (hthis1 : this ∈ L) (hthis2 : K this = 8) : Met l yX10_takeBack (.code yX10_takeBack cX10_takeBack 3 (some .boolean) :: TBg) ({ frames := 1, cells := 0, slots := 0, locals := 64 }) (va_Pc [.ref this, .int n, .int n2] (En G cy (WC cy L K R I J E B) sz)) (va_Qi (fun (r : Int32) (u : (Nat → Nat → Int32) × (Nat → Nat → Int64) × (Nat → Nat → Int32) × (Nat → Nat → Int64)) => IV T L K u.1 ∧ EV L K u.2.2.1 ∧ FI [] K I u.1 ∧ ((r.toInt = 0 ∨ r.toInt = 1))) (fun u t => Ex G (va_A (WC cy L K R I J E B) sz) (WC cy L K R u.1 u.2.1 u.2.2.1 u.2.2.2) t) (va_A (WC cy L K R I J E B) sz)) 0 0 (va_A (WC cy L K R I J E B) sz) := by
  have hthis : this ∈ L ∧ K this = 8 := ⟨hthis1, hthis2⟩
  refine Met.ofW (cc := cX10_takeBack) (maxL := 3) (ret := (some .boolean)) (by decide) rfl ?_
  intro p e s m args below meth c s₁ B9 hml hv9
  obtain ⟨rfl, hsz, hP, hK, hD0, hN⟩ := hv9
  have hx := B9.exec
  have hb := B9.bytes
  have hr := B9.returns
  have hts := atoms_spec (ws := .code yX10_takeBack cX10_takeBack 3 (some .boolean) :: TBg) B9.pre
  have ht : ∀ w ∈ TBg, w.before _ s = true := fun w h => hts w (List.mem_cons_of_mem _ h)
  have hown : s.vm.findClass RX10 = some m.cls := findClass_of_methodNamed B9.named
  have hlocks := B9.notSynchronized
  subst hsz
  have hD := hD0.self (sz := s.heap.size)
  generalize hAe : va_A (WC cy L K R I J E B) s.heap.size = A at hD ⊢
  have hA : ∀ q : Nat, s.heap.size ≤ q → A q := fun q h => by rw [← hAe]; exact Or.inr h
  have hS : va_S A s.heap s.heap [] := va_S.rf
  have hl := lv_entry ([.ref this, .int n, .int n2]) (n := 3) (Nat.le_of_ble_eq_true rfl)
  rw [lg_entry_eq]
  generalize (lg_sl ([.ref this, .int n, .int n2]) ++ List.replicate (3 - (lg_sl ([.ref this, .int n, .int n2])).length) Slot.unset).toArray = ls at hl ⊢
  have hl : lv_has ls 3 [(0, .ref this), (1, .int n), (2, .int n2)] := hl
  have z0 : (-1 : Int32).toInt = -1 := by decide
  have z1 : (0 : Int32).toInt = 0 := by decide
  have z2 : (1 : Int32).toInt = 1 := by decide
  have hC_0 : FI [] K I I := FI.rf
  refine lv_iload_n hx hb dX10_takeBack_0 rfl (lv_at hl 1 rfl) ?_
  refine lv_if_lt (tgt := 22) hx hb dX10_takeBack_1 (by decide) (fun c_1 => ?_) (fun c_1 => ?_)
  · have q_2 : n.toInt < (0 : Int32).toInt := (ow_lt _ _).mp c_1
    refine lv_iconst (v := 0) hx hb dX10_takeBack_22 (by decide) ?_
    refine W.widen (k := 0) (n := 0) (Nat.le_of_ble_eq_true rfl) (Nat.le_of_ble_eq_true rfl) ?_
    exact W.zret (v := 0) hx hb hr rfl (fun t ht9 hW => ⟨⟨0, (I, J, E, B), rfl, ⟨hI, hE, hC_0, (by omega)⟩, ⟨by rw [ht9]; exact hP, hD⟩⟩, hS.F ht9⟩) hS.2.2 dX10_takeBack_23
  · have q_3 : (0 : Int32).toInt ≤ n.toInt := by have := (not_congr (ow_lt _ _)).mp c_1; omega
    refine lv_iload_n hx hb dX10_takeBack_4 rfl (lv_at hl 1 rfl) ?_
    refine lv_aload_n hx hb dX10_takeBack_5 rfl (lv_at hl 0 rfl) ?_
    refine cg_8_5_10 hx hb ht hown hK hN hP hthis.1 hthis.2 dX10_takeBack_6 ?_
    have q_4 : 0 ≤ (I this 5).toInt ∧ (I this 5).toInt ≤ 30 := IV.rd hI hthis.1 hthis.2 5
    refine lv_icmp_ge (tgt := 22) hx hb dX10_takeBack_9 (by decide) (fun c_5 => ?_) (fun c_5 => ?_)
    · have q_6 : (I this 5).toInt ≤ n.toInt := (ow_le _ _).mp c_5
      refine lv_iconst (v := 0) hx hb dX10_takeBack_22 (by decide) ?_
      refine W.widen (k := 0) (n := 0) (Nat.le_of_ble_eq_true rfl) (Nat.le_of_ble_eq_true rfl) ?_
      exact W.zret (v := 0) hx hb hr rfl (fun t ht9 hW => ⟨⟨0, (I, J, E, B), rfl, ⟨hI, hE, hC_0, (by omega)⟩, ⟨by rw [ht9]; exact hP, hD⟩⟩, hS.F ht9⟩) hS.2.2 dX10_takeBack_23
    · have q_7 : n.toInt < (I this 5).toInt := by have := (not_congr (ow_le _ _)).mp c_5; omega
      refine lv_aload_n hx hb dX10_takeBack_12 rfl (lv_at hl 0 rfl) ?_
      refine cg_8_4_10 hx hb ht hown hK hN hP hthis.1 hthis.2 dX10_takeBack_13 ?_
      have hm_8 : (R this 4) ∈ L ∧ K (R this 4) = 38 := RT.o hRT hthis.1 hthis.2 4 (by decide)
      refine lv_iload_n hx hb dX10_takeBack_16 rfl (lv_at hl 1 rfl) ?_
      have q_9 : vp_in n 30 := vp_in_iff.mpr ⟨by omega, by omega⟩
      refine cl_38 hx hb hK hP hm_8.1 hm_8.2 q_9 dX10_takeBack_17 ?_
      refine lv_topi (fun v_10 ev_10 => ?_)
      refine lv_iconst (v := (-1)) hx hb dX10_takeBack_18 (by decide) ?_
      refine lv_icmp_eq (tgt := 24) hx hb dX10_takeBack_19 (by decide) (fun c_11 => ?_) (fun c_11 => ?_)
      · have q_12 : v_10.toInt = ((-1) : Int32).toInt := (ow_eq _ _).mp c_11
        refine lv_aload_n hx hb dX10_takeBack_24 rfl (lv_at hl 0 rfl) ?_
        refine cg_8_4_10 hx hb ht hown hK hN hP hthis.1 hthis.2 dX10_takeBack_25 ?_
        refine lv_iload_n hx hb dX10_takeBack_28 rfl (lv_at hl 1 rfl) ?_
        refine lv_iload_n hx hb dX10_takeBack_29 rfl (lv_at hl 2 rfl) ?_
        have q_13 : vp_in n 30 := vp_in_iff.mpr ⟨by omega, by omega⟩
        refine cs_38 hx hb hK hP hD hS hm_8.1 hm_8.2 q_13 dX10_takeBack_30 (fun H locs hP hD hS => ?_)
        replace hE := EV.up hE hm_8.2 (i := (Int32.toNatClampNeg n)) (ow_any n2)
        generalize (va_up E (R this 4) (upd (E (R this 4)) (Int32.toNatClampNeg n) n2)) = E_14 at hP hD hE
        refine lv_iconst (v := 1) hx hb dX10_takeBack_31 (by decide) ?_
        refine W.widen (k := 0) (n := 0) (Nat.le_of_ble_eq_true rfl) (Nat.le_of_ble_eq_true rfl) ?_
        exact W.zret (v := 1) hx hb hr rfl (fun t ht9 hW => ⟨⟨1, (I, J, E_14, B), rfl, ⟨hI, hE, hC_0, (by omega)⟩, ⟨by rw [ht9]; exact hP, hD⟩⟩, hS.F ht9⟩) hS.2.2 dX10_takeBack_32
      · have q_15 : ¬ v_10.toInt = ((-1) : Int32).toInt := by have := (not_congr (ow_eq _ _)).mp c_11; omega
        refine lv_iconst (v := 0) hx hb dX10_takeBack_22 (by decide) ?_
        refine W.widen (k := 0) (n := 0) (Nat.le_of_ble_eq_true rfl) (Nat.le_of_ble_eq_true rfl) ?_
        exact W.zret (v := 0) hx hb hr rfl (fun t ht9 hW => ⟨⟨0, (I, J, E, B), rfl, ⟨hI, hE, hC_0, (by omega)⟩, ⟨by rw [ht9]; exact hP, hD⟩⟩, hS.F ht9⟩) hS.2.2 dX10_takeBack_23
set_option maxHeartbeats 4000000 in
set_option maxRecDepth 100000 in
theorem c_counts (l : Launch) (G : va_G) (cy : Nat → ClassId) (sz : Nat) (L : List Nat) (K : Nat → Nat) (R : Nat → Nat → Nat) (T : Int) (I E : Nat → Nat → Int32) (J B : Nat → Nat → Int64) (this : Nat) (n : Int32) (n2 : Int32) (hRT : RT L K R) (hI : IV T L K I) (hE : EV L K E) (hthis1 : this ∈ L) (hthis2 : K this = 8) (h_n : 0 ≤ n.toInt ∧ n.toInt ≤ 29) : Met l yX10_counts (.code yX10_counts cX10_counts 4 (some .boolean) :: TBg) ({ frames := 1, cells := 0, slots := 0, locals := 64 }) (va_Pc [.ref this, .int n, .int n2] (En G cy (WC cy L K R I J E B) sz)) (va_Qi (fun (r : Int32) (_ : Unit) => (r.toInt = 0 ∨ r.toInt = 1)) (fun _ _ => True) (va_A [] sz)) 0 0 (va_A [] sz) := by
  have hthis : this ∈ L ∧ K this = 8 := ⟨hthis1, hthis2⟩
  refine Met.ofW (cc := cX10_counts) (maxL := 4) (ret := (some .boolean)) (by decide) rfl ?_
  intro p e s m args below meth c s₁ B9 hml hv9
  obtain ⟨rfl, hsz, hP, hK, hD0, hN⟩ := hv9
  have hx := B9.exec
  have hb := B9.bytes
  have hr := B9.returns
  have hts := atoms_spec (ws := .code yX10_counts cX10_counts 4 (some .boolean) :: TBg) B9.pre
  have ht : ∀ w ∈ TBg, w.before _ s = true := fun w h => hts w (List.mem_cons_of_mem _ h)
  have hown : s.vm.findClass RX10 = some m.cls := findClass_of_methodNamed B9.named
  have hlocks := B9.notSynchronized
  subst hsz
  generalize hAe : va_A [] s.heap.size = A at ⊢
  have hA : ∀ q : Nat, s.heap.size ≤ q → A q := fun q h => by rw [← hAe]; exact Or.inr h
  have hS : va_S A s.heap s.heap [] := va_S.rf
  have hl := lv_entry ([.ref this, .int n, .int n2]) (n := 4) (Nat.le_of_ble_eq_true rfl)
  rw [lg_entry_eq]
  generalize (lg_sl ([.ref this, .int n, .int n2]) ++ List.replicate (4 - (lg_sl ([.ref this, .int n, .int n2])).length) Slot.unset).toArray = ls at hl ⊢
  have hl : lv_has ls 4 [(0, .ref this), (1, .int n), (2, .int n2)] := hl
  have z0 : (-1 : Int32).toInt = -1 := by decide
  have z1 : (0 : Int32).toInt = 0 := by decide
  have z2 : (1 : Int32).toInt = 1 := by decide
  refine W.widen (k := 0) (n := 0) (Nat.le_of_ble_eq_true rfl) (Nat.le_of_ble_eq_true rfl) ?_
  have jn_1 : ∀ (y0_1 : Int32) (H : Heap) (locs : List Loc) (ls : Array Slot), (0 ≤ y0_1.toInt ∧ y0_1.toInt ≤ 1) → va_P G vwCl (WC cy L K R I J E B) H → va_S A s.heap H locs → lv_has ls 4 [(0, .ref this), (1, .int n), (2, .int n2)] → W p l e (headSpec (.code yX10_counts cX10_counts 4 (some .boolean) :: TBg) ({ frames := 1, cells := 0, slots := 0, locals := 64 })).room s m ([.ref this, .int n, .int n2] : List Value).toArray below meth c H locs 0 0 (MQ below (va_Qi (fun (r : Int32) (_ : Unit) => (r.toInt = 0 ∨ r.toInt = 1)) (fun _ _ => True) A) ([.ref this, .int n, .int n2] : List Value).toArray s 0 0 A) (F0 m 25 ls [.int y0_1]) := by
    intro y0_1 H locs ls qf1_0 hP hS hl
    refine lv_istore_n (lv' := [(3, .int y0_1), (0, .ref this), (1, .int n), (2, .int n2)]) hx hb dX10_counts_25 rfl hl (by decide) rfl (fun ls hl => ?_)
    refine lv_aload_n hx hb dX10_counts_26 rfl (lv_at hl 1 rfl) ?_
    refine cg_8_3_10 hx hb ht hown hK hN hP hthis.1 hthis.2 dX10_counts_27 ?_
    have hm_2 : (R this 3) ∈ L ∧ K (R this 3) = 38 := RT.o hRT hthis.1 hthis.2 3 (by decide)
    refine lv_iload_n hx hb dX10_counts_30 rfl (lv_at hl 2 rfl) ?_
    have q_3 : vp_in n 30 := vp_in_iff.mpr ⟨by omega, by omega⟩
    refine cl_38 hx hb hK hP hm_2.1 hm_2.2 q_3 dX10_counts_31 ?_
    refine lv_topi (fun v_4 ev_4 => ?_)
    refine lv_iload_n hx hb dX10_counts_32 rfl (lv_at hl 3 rfl) ?_
    refine lv_icmp_gt (tgt := 44) hx hb dX10_counts_33 (by decide) (fun c_5 => ?_) (fun c_5 => ?_)
    · have q_6 : n2.toInt < v_4.toInt := (ow_lt _ _).mp c_5
      refine lv_iconst (v := 0) hx hb dX10_counts_44 (by decide) ?_
      refine W.widen (k := 0) (n := 0) (Nat.le_of_ble_eq_true rfl) (Nat.le_of_ble_eq_true rfl) ?_
      exact W.zret (v := 0) hx hb hr rfl (fun t ht9 hW => ⟨⟨0, (), rfl, (by omega), trivial⟩, hS.F ht9⟩) hS.2.2 dX10_counts_45
    · have q_7 : v_4.toInt ≤ n2.toInt := by have := (not_congr (ow_lt _ _)).mp c_5; omega
      refine lv_iload_n hx hb dX10_counts_36 rfl (lv_at hl 0 rfl) ?_
      refine lv_if_ne (tgt := 44) hx hb dX10_counts_37 (by decide) (fun c_8 => ?_) (fun c_8 => ?_)
      · have q_9 : ¬ y0_1.toInt = (0 : Int32).toInt := by have := (not_congr (ow_eq _ _)).mp c_8; omega
        refine lv_iconst (v := 0) hx hb dX10_counts_44 (by decide) ?_
        refine W.widen (k := 0) (n := 0) (Nat.le_of_ble_eq_true rfl) (Nat.le_of_ble_eq_true rfl) ?_
        exact W.zret (v := 0) hx hb hr rfl (fun t ht9 hW => ⟨⟨0, (), rfl, (by omega), trivial⟩, hS.F ht9⟩) hS.2.2 dX10_counts_45
      · have q_10 : y0_1.toInt = (0 : Int32).toInt := (ow_eq _ _).mp c_8
        refine lv_iconst (v := 1) hx hb dX10_counts_40 (by decide) ?_
        refine lv_goto (tgt := 45) hx hb dX10_counts_41 (by decide) ?_
        refine W.widen (k := 0) (n := 0) (Nat.le_of_ble_eq_true rfl) (Nat.le_of_ble_eq_true rfl) ?_
        exact W.zret (v := 1) hx hb hr rfl (fun t ht9 hW => ⟨⟨1, (), rfl, (by omega), trivial⟩, hS.F ht9⟩) hS.2.2 dX10_counts_45
  refine lv_aload_n hx hb dX10_counts_0 rfl (lv_at hl 0 rfl) ?_
  refine cg_8_4_10 hx hb ht hown hK hN hP hthis.1 hthis.2 dX10_counts_1 ?_
  have hm_11 : (R this 4) ∈ L ∧ K (R this 4) = 38 := RT.o hRT hthis.1 hthis.2 4 (by decide)
  refine lv_iload_n hx hb dX10_counts_4 rfl (lv_at hl 1 rfl) ?_
  have q_12 : vp_in n 30 := vp_in_iff.mpr ⟨by omega, by omega⟩
  refine cl_38 hx hb hK hP hm_11.1 hm_11.2 q_12 dX10_counts_5 ?_
  refine lv_topi (fun v_13 ev_13 => ?_)
  refine lv_iconst (v := (-1)) hx hb dX10_counts_6 (by decide) ?_
  refine lv_icmp_eq (tgt := 24) hx hb dX10_counts_7 (by decide) (fun c_14 => ?_) (fun c_14 => ?_)
  · have q_15 : v_13.toInt = ((-1) : Int32).toInt := (ow_eq _ _).mp c_14
    refine lv_iconst (v := 0) hx hb dX10_counts_24 (by decide) ?_
    refine W.widen (k := 0) (n := 0) (Nat.le_of_ble_eq_true rfl) (Nat.le_of_ble_eq_true rfl) ?_
    exact jn_1 (0) _ _ _ (by omega) hP hS (lv_sub hl [0, 1, 2] rfl)
  · have q_16 : ¬ v_13.toInt = ((-1) : Int32).toInt := by have := (not_congr (ow_eq _ _)).mp c_14; omega
    refine lv_aload_n hx hb dX10_counts_10 rfl (lv_at hl 0 rfl) ?_
    refine cg_8_4_10 hx hb ht hown hK hN hP hthis.1 hthis.2 dX10_counts_11 ?_
    refine lv_iload_n hx hb dX10_counts_14 rfl (lv_at hl 1 rfl) ?_
    have q_17 : vp_in n 30 := vp_in_iff.mpr ⟨by omega, by omega⟩
    refine cl_38 hx hb hK hP hm_11.1 hm_11.2 q_17 dX10_counts_15 ?_
    refine ow_top v_13 ev_13.symm ?_
    refine lv_iload_n hx hb dX10_counts_16 rfl (lv_at hl 2 rfl) ?_
    refine lv_icmp_gt (tgt := 24) hx hb dX10_counts_17 (by decide) (fun c_18 => ?_) (fun c_18 => ?_)
    · have q_19 : n2.toInt < v_13.toInt := (ow_lt _ _).mp c_18
      refine lv_iconst (v := 0) hx hb dX10_counts_24 (by decide) ?_
      refine W.widen (k := 0) (n := 0) (Nat.le_of_ble_eq_true rfl) (Nat.le_of_ble_eq_true rfl) ?_
      exact jn_1 (0) _ _ _ (by omega) hP hS (lv_sub hl [0, 1, 2] rfl)
    · have q_20 : v_13.toInt ≤ n2.toInt := by have := (not_congr (ow_lt _ _)).mp c_18; omega
      refine lv_iconst (v := 1) hx hb dX10_counts_20 (by decide) ?_
      refine lv_goto (tgt := 25) hx hb dX10_counts_21 (by decide) ?_
      refine W.widen (k := 0) (n := 0) (Nat.le_of_ble_eq_true rfl) (Nat.le_of_ble_eq_true rfl) ?_
      exact jn_1 (1) _ _ _ (by omega) hP hS (lv_sub hl [0, 1, 2] rfl)
set_option maxHeartbeats 4000000 in
set_option maxRecDepth 100000 in
theorem c_leftAt (l : Launch) (G : va_G) (cy : Nat → ClassId) (sz : Nat) (L : List Nat) (K : Nat → Nat) (R : Nat → Nat → Nat) (T : Int) (I E : Nat → Nat → Int32) (J B : Nat → Nat → Int64) (this : Nat) (n : Int32) (town : Nat) (hRT : RT L K R) (hI : IV T L K I) (hE : EV L K E) (hthis1 : this ∈ L) (hthis2 : K this = 8) (h_town1 : town ∈ L) (h_town2 : K town = 1) : Met l yX10_leftAt (.code yX10_leftAt cX10_leftAt 6 (some .int) :: TBg) ({ frames := 2, cells := 0, slots := 0, locals := 128 }) (va_Pc [.ref this, .int n, .ref town] (En G cy (WC cy L K R I J E B) sz)) (va_Qi (fun (r : Int32) (_ : Unit) => True) (fun _ _ => True) (va_A [] sz)) 0 0 (va_A [] sz) := by
  have hthis : this ∈ L ∧ K this = 8 := ⟨hthis1, hthis2⟩
  have h_town : town ∈ L ∧ K town = 1 := ⟨h_town1, h_town2⟩
  refine Met.ofW (cc := cX10_leftAt) (maxL := 6) (ret := (some .int)) (by decide) rfl ?_
  intro p e s m args below meth c s₁ B9 hml hv9
  obtain ⟨rfl, hsz, hP, hK, hD0, hN⟩ := hv9
  have hx := B9.exec
  have hb := B9.bytes
  have hr := B9.returns
  have hts := atoms_spec (ws := .code yX10_leftAt cX10_leftAt 6 (some .int) :: TBg) B9.pre
  have ht : ∀ w ∈ TBg, w.before _ s = true := fun w h => hts w (List.mem_cons_of_mem _ h)
  have hown : s.vm.findClass RX10 = some m.cls := findClass_of_methodNamed B9.named
  have hlocks := B9.notSynchronized
  subst hsz
  generalize hAe : va_A [] s.heap.size = A at ⊢
  have hA : ∀ q : Nat, s.heap.size ≤ q → A q := fun q h => by rw [← hAe]; exact Or.inr h
  have hS : va_S A s.heap s.heap [] := va_S.rf
  have hl := lv_entry ([.ref this, .int n, .ref town]) (n := 6) (Nat.le_of_ble_eq_true rfl)
  rw [lg_entry_eq]
  generalize (lg_sl ([.ref this, .int n, .ref town]) ++ List.replicate (6 - (lg_sl ([.ref this, .int n, .ref town])).length) Slot.unset).toArray = ls at hl ⊢
  have hl : lv_has ls 6 [(0, .ref this), (1, .int n), (2, .ref town)] := hl
  have z0 : (0 : Int32).toInt = 0 := by decide
  have z1 : (1 : Int32).toInt = 1 := by decide
  refine lv_iconst (v := 1) hx hb dX10_leftAt_0 (by decide) ?_
  refine lv_aload_n hx hb dX10_leftAt_1 rfl (lv_at hl 2 rfl) ?_
  refine cg_1_3_10 hx hb ht hown hK hN hP h_town.1 h_town.2 dX10_leftAt_2 ?_
  have q_1 : 0 ≤ (I town 3).toInt ∧ (I town 3).toInt ≤ 14 := IV.rd hI h_town.1 h_town.2 3
  refine lv_ishl hx hb dX10_leftAt_5 ?_
  refine lv_topi (fun v_2 ev_2 => ?_)
  refine lv_iconst (v := 1) hx hb dX10_leftAt_6 (by decide) ?_
  refine lv_isub hx hb dX10_leftAt_7 ?_
  refine lv_topi (fun v_3 ev_3 => ?_)
  refine lv_istore_n (lv' := [(3, .int v_3), (0, .ref this), (1, .int n), (2, .ref town)]) hx hb dX10_leftAt_8 rfl hl (by decide) rfl (fun ls hl => ?_)
  refine lv_iconst (v := 0) hx hb dX10_leftAt_9 (by decide) ?_
  refine lv_istore (lv' := [(4, .int 0), (3, .int v_3), (0, .ref this), (1, .int n), (2, .ref town)]) hx hb dX10_leftAt_10 hl (by decide) rfl (fun ls hl => ?_)
  refine W.widen (k := 0) (n := 0) (Nat.le_of_ble_eq_true rfl) (Nat.le_of_ble_eq_true rfl) ?_
  have lp_4 : ∀ (N_4 : Nat) (x4_4 : Int32) (x3_4 : Int32) (H : Heap) (locs : List Loc) (ls : Array Slot), (0 ≤ x4_4.toInt ∧ x4_4.toInt ≤ 30) → (30 - x4_4.toInt).toNat < N_4 → va_P G vwCl (WC cy L K R I J E B) H → va_S A s.heap H locs → lv_has ls 6 [(4, .int x4_4), (3, .int x3_4), (0, .ref this), (1, .int n), (2, .ref town)] → W p l e (headSpec (.code yX10_leftAt cX10_leftAt 6 (some .int) :: TBg) ({ frames := 2, cells := 0, slots := 0, locals := 128 })).room s m ([.ref this, .int n, .ref town] : List Value).toArray below meth c H locs 0 0 (MQ below (va_Qi (fun (r : Int32) (_ : Unit) => True) (fun _ _ => True) A) ([.ref this, .int n, .ref town] : List Value).toArray s 0 0 A) (F0 m 12 ls []) := by
    intro N_4
    induction N_4 with
    | zero => intro x4_4 x3_4 H locs ls qf4_0 hm9 hP hS hl; exact absurd hm9 (Nat.not_lt_zero _)
    | succ N_4 ih_4 =>
      intro x4_4 x3_4 H locs ls qf4_0 hm9 hP hS hl
      refine lv_iload hx hb dX10_leftAt_12 (lv_at hl 0 rfl) ?_
      refine lv_aload_n hx hb dX10_leftAt_14 rfl (lv_at hl 2 rfl) ?_
      refine cg_8_5_10 hx hb ht hown hK hN hP hthis.1 hthis.2 dX10_leftAt_15 ?_
      have q_5 : 0 ≤ (I this 5).toInt ∧ (I this 5).toInt ≤ 30 := IV.rd hI hthis.1 hthis.2 5
      refine lv_icmp_ge (tgt := 97) hx hb dX10_leftAt_18 (by decide) (fun c_6 => ?_) (fun c_6 => ?_)
      · have q_7 : (I this 5).toInt ≤ x4_4.toInt := (ow_le _ _).mp c_6
        refine lv_iload_n hx hb dX10_leftAt_97 rfl (lv_at hl 1 rfl) ?_
        refine W.widen (k := 0) (n := 0) (Nat.le_of_ble_eq_true rfl) (Nat.le_of_ble_eq_true rfl) ?_
        exact W.iret (v := x3_4) hx hb hr (fun t ht9 hW => ⟨⟨x3_4, (), rfl, trivial, trivial⟩, hS.F ht9⟩) hS.2.2 dX10_leftAt_98
      · have q_8 : x4_4.toInt < (I this 5).toInt := by have := (not_congr (ow_le _ _)).mp c_6; omega
        refine lv_aload_n hx hb dX10_leftAt_21 rfl (lv_at hl 2 rfl) ?_
        refine lv_iload hx hb dX10_leftAt_22 (lv_at hl 0 rfl) ?_
        refine lv_iload_n hx hb dX10_leftAt_24 rfl (lv_at hl 3 rfl) ?_
        have hFc := fr_new hS hA
        refine va_calli (va_runV (As := [.int x4_4, .int n]) (rest := []) ⟨hx, hb, hml, hown, ht⟩ (c_counts l G cy _ L K R T I E J B this x4_4 n hRT hI hE hthis.1 hthis.2 (by omega)) (cwV 2 ht (gv k_479 k_480 k_481 k_482 k_478) rfl rfl rfl (by decide +kernel) ⟨Nat.le_of_ble_eq_true rfl, Nat.le_of_ble_eq_true rfl⟩) ⟨En.blind, cr_8 hK hP hthis.1 hthis.2, fun U hU hW => ⟨rfl, En.of hU hW hP hK hD0 hN⟩⟩ rfl rfl hl.1 rfl (lv_room (Nat.le_of_ble_eq_true rfl)) dX10_leftAt_25 ⟨Nat.le_of_ble_eq_true rfl, Nat.le_of_ble_eq_true rfl⟩) hS (fun q _ h => hFc q h) hFc (fun r_u_9 u_9 t9 H locs ht9 hvm hw hB hz1 hk1 hS => ?_)
        have hP := fr_keep hP hk1
        have wu_9 := hw
        clear hFc hk1 hz1 hB hw
        refine lv_if_eq (tgt := 91) hx hb dX10_leftAt_28 (by decide) (fun c_10 => ?_) (fun c_10 => ?_)
        · have q_11 : r_u_9.toInt = (0 : Int32).toInt := (ow_eq _ _).mp c_10
          obtain ⟨v_12, ev_12⟩ : ∃ y : Int32, y = x4_4 + 1 := ⟨_, rfl⟩
          refine lv_iinc (v := v_12) (lv' := [(4, .int v_12), (3, .int x3_4), (0, .ref this), (1, .int n), (2, .ref town)]) hx hb dX10_leftAt_91 hl (k := 0) rfl (by rw [ev_12]; rfl) (by decide) rfl (fun ls hl => ?_)
          have q_13 : v_12.toInt = x4_4.toInt + 1 := by have := ow_add ev_12 (by omega) (by omega); omega
          refine lv_goto (tgt := 12) hx hb dX10_leftAt_94 (by decide) ?_
          refine W.widen (k := 0) (n := 0) (Nat.le_of_ble_eq_true rfl) (Nat.le_of_ble_eq_true rfl) ?_
          exact ih_4 v_12 x3_4 _ _ _ (by omega) (by omega) hP hS (lv_sub hl [0, 1, 2, 3, 4] rfl)
        · have q_14 : ¬ r_u_9.toInt = (0 : Int32).toInt := by have := (not_congr (ow_eq _ _)).mp c_10; omega
          refine lv_aload_n hx hb dX10_leftAt_31 rfl (lv_at hl 4 rfl) ?_
          refine lv_aload_n hx hb dX10_leftAt_32 rfl (lv_at hl 2 rfl) ?_
          refine cg_8_0_10 hx hb ht hown hK hN hP hthis.1 hthis.2 dX10_leftAt_33 ?_
          have hm_15 : (R this 0) ∈ L ∧ K (R this 0) = 36 := RT.o hRT hthis.1 hthis.2 0 (by decide)
          refine lv_iload hx hb dX10_leftAt_36 (lv_at hl 0 rfl) ?_
          have q_16 : vp_in x4_4 30 := vp_in_iff.mpr ⟨by omega, by omega⟩
          refine cl_36 hx hb hK hP hm_15.1 hm_15.2 q_16 dX10_leftAt_38 ?_
          refine lv_topi (fun v_17 ev_17 => ?_)
          have hFc := fr_new hS hA
          refine va_calli (va_runV (As := [.int v_17]) (rest := []) ⟨hx, hb, hml, hown, ht⟩ (c_hasLock l G cy _ L K R T I E J B town v_17 hRT hI hE h_town.1 h_town.2) (cwV 1 ht (gv k_484 k_485 k_486 k_461 k_483) rfl rfl rfl (by decide +kernel) ⟨Nat.le_of_ble_eq_true rfl, Nat.le_of_ble_eq_true rfl⟩) ⟨En.blind, cr_1 hK hP h_town.1 h_town.2, fun U hU hW => ⟨rfl, En.of hU hW hP hK hD0 hN⟩⟩ rfl rfl hl.1 rfl (lv_room (Nat.le_of_ble_eq_true rfl)) dX10_leftAt_39 ⟨Nat.le_of_ble_eq_true rfl, Nat.le_of_ble_eq_true rfl⟩) hS (fun q _ h => hFc q h) hFc (fun r_u_18 u_18 t9 H locs ht9 hvm hw hB hz1 hk1 hS => ?_)
          have hP := fr_keep hP hk1
          have wu_18 := hw
          clear hFc hk1 hz1 hB hw
          refine lv_if_eq (tgt := 91) hx hb dX10_leftAt_42 (by decide) (fun c_19 => ?_) (fun c_19 => ?_)
          · have q_20 : r_u_18.toInt = (0 : Int32).toInt := (ow_eq _ _).mp c_19
            obtain ⟨v_21, ev_21⟩ : ∃ y : Int32, y = x4_4 + 1 := ⟨_, rfl⟩
            refine lv_iinc (v := v_21) (lv' := [(4, .int v_21), (3, .int x3_4), (0, .ref this), (1, .int n), (2, .ref town)]) hx hb dX10_leftAt_91 hl (k := 0) rfl (by rw [ev_21]; rfl) (by decide) rfl (fun ls hl => ?_)
            have q_22 : v_21.toInt = x4_4.toInt + 1 := by have := ow_add ev_21 (by omega) (by omega); omega
            refine lv_goto (tgt := 12) hx hb dX10_leftAt_94 (by decide) ?_
            refine W.widen (k := 0) (n := 0) (Nat.le_of_ble_eq_true rfl) (Nat.le_of_ble_eq_true rfl) ?_
            exact ih_4 v_21 x3_4 _ _ _ (by omega) (by omega) hP hS (lv_sub hl [0, 1, 2, 3, 4] rfl)
          · have q_23 : ¬ r_u_18.toInt = (0 : Int32).toInt := by have := (not_congr (ow_eq _ _)).mp c_19; omega
            refine lv_aload_n hx hb dX10_leftAt_45 rfl (lv_at hl 4 rfl) ?_
            refine cg_1_4_10 hx hb ht hown hK hN hP h_town.1 h_town.2 dX10_leftAt_46 ?_
            have hm_24 : (R town 4) ∈ L ∧ K (R town 4) = 32 := RT.o hRT h_town.1 h_town.2 4 (by decide)
            refine lv_aload_n hx hb dX10_leftAt_49 rfl (lv_at hl 2 rfl) ?_
            refine cg_8_0_10 hx hb ht hown hK hN hP hthis.1 hthis.2 dX10_leftAt_50 ?_
            refine lv_iload hx hb dX10_leftAt_53 (lv_at hl 0 rfl) ?_
            have q_25 : vp_in x4_4 30 := vp_in_iff.mpr ⟨by omega, by omega⟩
            refine cl_36 hx hb hK hP hm_15.1 hm_15.2 q_25 dX10_leftAt_55 ?_
            refine ow_top v_17 ev_17.symm ?_
            have q_26 : vp_in v_17 8 := vp_in_iff.mpr ⟨by omega, by omega⟩
            refine cl_32 hx hb hK hP hm_24.1 hm_24.2 q_26 dX10_leftAt_56 ?_
            have hm_27 : (R (R town 4) (Int32.toNatClampNeg v_17)) ∈ L ∧ K (R (R town 4) (Int32.toNatClampNeg v_17)) = 5 := RT.a hRT hm_24.1 hm_24.2 (by decide) q_26
            refine lv_aload_n hx hb dX10_leftAt_57 rfl (lv_at hl 2 rfl) ?_
            refine cg_8_1_10 hx hb ht hown hK hN hP hthis.1 hthis.2 dX10_leftAt_58 ?_
            have hm_28 : (R this 1) ∈ L ∧ K (R this 1) = 37 := RT.o hRT hthis.1 hthis.2 1 (by decide)
            refine lv_iload hx hb dX10_leftAt_61 (lv_at hl 0 rfl) ?_
            have q_29 : vp_in x4_4 30 := vp_in_iff.mpr ⟨by omega, by omega⟩
            refine cl_37 hx hb hK hP hm_28.1 hm_28.2 q_29 dX10_leftAt_63 ?_
            refine lv_topi (fun v_30 ev_30 => ?_)
            have q_31 : 0 ≤ v_30.toInt ∧ v_30.toInt ≤ 1 := by rw [ev_30]; exact EV.rd hE hm_28.1 hm_28.2 q_29
            have hFc := fr_new hS hA
            refine va_calli (va_runV (As := [.int v_30]) (rest := []) ⟨hx, hb, hml, hown, ht⟩ (c_told l G cy _ L K R T I E J B (R (R town 4) (Int32.toNatClampNeg v_17)) v_30 hRT hI hE hm_27.1 hm_27.2 (by omega)) (cwV 1 ht (gv k_488 k_489 k_490 k_437 k_487) rfl rfl rfl (by decide +kernel) ⟨Nat.le_of_ble_eq_true rfl, Nat.le_of_ble_eq_true rfl⟩) ⟨En.blind, cr_5 hK hP hm_27.1 hm_27.2, fun U hU hW => ⟨rfl, En.of hU hW hP hK hD0 hN⟩⟩ rfl rfl hl.1 rfl (lv_room (Nat.le_of_ble_eq_true rfl)) dX10_leftAt_64 ⟨Nat.le_of_ble_eq_true rfl, Nat.le_of_ble_eq_true rfl⟩) hS (fun q _ h => hFc q h) hFc (fun r_u_32 u_32 t9 H locs ht9 hvm hw hB hz1 hk1 hS => ?_)
            have hP := fr_keep hP hk1
            have wu_32 := hw
            clear hFc hk1 hz1 hB hw
            refine lv_istore (lv' := [(5, .int r_u_32), (4, .int x4_4), (3, .int x3_4), (0, .ref this), (1, .int n), (2, .ref town)]) hx hb dX10_leftAt_67 hl (by decide) rfl (fun ls hl => ?_)
            refine lv_iload_n hx hb dX10_leftAt_69 rfl (lv_at hl 2 rfl) ?_
            refine lv_aload_n hx hb dX10_leftAt_70 rfl (lv_at hl 3 rfl) ?_
            refine cg_8_2_10 hx hb ht hown hK hN hP hthis.1 hthis.2 dX10_leftAt_71 ?_
            have hm_33 : (R this 2) ∈ L ∧ K (R this 2) = 37 := RT.o hRT hthis.1 hthis.2 2 (by decide)
            refine lv_iload hx hb dX10_leftAt_74 (lv_at hl 1 rfl) ?_
            have q_34 : vp_in x4_4 30 := vp_in_iff.mpr ⟨by omega, by omega⟩
            refine cl_37 hx hb hK hP hm_33.1 hm_33.2 q_34 dX10_leftAt_76 ?_
            refine lv_topi (fun v_35 ev_35 => ?_)
            have q_36 : 0 ≤ v_35.toInt ∧ v_35.toInt ≤ 1 := by rw [ev_35]; exact EV.rd hE hm_33.1 hm_33.2 q_34
            refine lv_if_eq (tgt := 85) hx hb dX10_leftAt_77 (by decide) (fun c_37 => ?_) (fun c_37 => ?_)
            · have q_38 : v_35.toInt = (0 : Int32).toInt := (ow_eq _ _).mp c_37
              refine lv_iload hx hb dX10_leftAt_85 (lv_at hl 0 rfl) ?_
              refine lv_iconst (v := (-1)) hx hb dX10_leftAt_87 (by decide) ?_
              refine lv_ixor hx hb dX10_leftAt_88 ?_
              refine lv_topi (fun v_39 ev_39 => ?_)
              refine lv_iand hx hb dX10_leftAt_89 ?_
              refine lv_topi (fun v_40 ev_40 => ?_)
              refine lv_istore_n (lv' := [(3, .int v_40), (5, .int r_u_32), (4, .int x4_4), (0, .ref this), (1, .int n), (2, .ref town)]) hx hb dX10_leftAt_90 rfl hl (by decide) rfl (fun ls hl => ?_)
              obtain ⟨v_41, ev_41⟩ : ∃ y : Int32, y = x4_4 + 1 := ⟨_, rfl⟩
              refine lv_iinc (v := v_41) (lv' := [(4, .int v_41), (3, .int v_40), (5, .int r_u_32), (0, .ref this), (1, .int n), (2, .ref town)]) hx hb dX10_leftAt_91 hl (k := 2) rfl (by rw [ev_41]; rfl) (by decide) rfl (fun ls hl => ?_)
              have q_42 : v_41.toInt = x4_4.toInt + 1 := by have := ow_add ev_41 (by omega) (by omega); omega
              refine lv_goto (tgt := 12) hx hb dX10_leftAt_94 (by decide) ?_
              refine W.widen (k := 0) (n := 0) (Nat.le_of_ble_eq_true rfl) (Nat.le_of_ble_eq_true rfl) ?_
              exact ih_4 v_41 v_40 _ _ _ (by omega) (by omega) hP hS (lv_sub hl [0, 1, 3, 4, 5] rfl)
            · have q_43 : ¬ v_35.toInt = (0 : Int32).toInt := by have := (not_congr (ow_eq _ _)).mp c_37; omega
              refine lv_iload hx hb dX10_leftAt_80 (lv_at hl 0 rfl) ?_
              refine lv_goto (tgt := 89) hx hb dX10_leftAt_82 (by decide) ?_
              refine lv_iand hx hb dX10_leftAt_89 ?_
              refine lv_topi (fun v_44 ev_44 => ?_)
              refine lv_istore_n (lv' := [(3, .int v_44), (5, .int r_u_32), (4, .int x4_4), (0, .ref this), (1, .int n), (2, .ref town)]) hx hb dX10_leftAt_90 rfl hl (by decide) rfl (fun ls hl => ?_)
              obtain ⟨v_45, ev_45⟩ : ∃ y : Int32, y = x4_4 + 1 := ⟨_, rfl⟩
              refine lv_iinc (v := v_45) (lv' := [(4, .int v_45), (3, .int v_44), (5, .int r_u_32), (0, .ref this), (1, .int n), (2, .ref town)]) hx hb dX10_leftAt_91 hl (k := 2) rfl (by rw [ev_45]; rfl) (by decide) rfl (fun ls hl => ?_)
              have q_46 : v_45.toInt = x4_4.toInt + 1 := by have := ow_add ev_45 (by omega) (by omega); omega
              refine lv_goto (tgt := 12) hx hb dX10_leftAt_94 (by decide) ?_
              refine W.widen (k := 0) (n := 0) (Nat.le_of_ble_eq_true rfl) (Nat.le_of_ble_eq_true rfl) ?_
              exact ih_4 v_45 v_44 _ _ _ (by omega) (by omega) hP hS (lv_sub hl [0, 1, 3, 4, 5] rfl)
  exact lp_4 _ (0) v_3 _ _ _ (by omega) (Nat.lt_succ_self _) hP hS (lv_sub hl [0, 1, 2, 3, 4] rfl)
