theorem k_654 : (Cond.code yX6_fail cX6_fail 2 (some .boolean)) ∈ TBg := tb_mem 607 (by decide +kernel) (by decide +kernel)
theorem k_655 : (Cond.methodLink RX6 74 yX6_fail) ∈ TBg := tb_mem 604 (by decide +kernel) (by decide +kernel)
theorem k_656 : (Cond.instanceMethod yX6_fail) ∈ TBg := tb_mem 606 (by decide +kernel) (by decide +kernel)
theorem k_657 : (Cond.selects RX6 yX6_fail yX6_fail) ∈ TBg := tb_mem 9 (by decide +kernel) (by decide +kernel)
theorem k_658 : (Cond.code yX6_takeToken cX6_takeToken 1 none) ∈ TBg := tb_mem 522 (by decide +kernel) (by decide +kernel)
theorem k_659 : (Cond.methodLink RX6 37 yX6_takeToken) ∈ TBg := tb_mem 519 (by decide +kernel) (by decide +kernel)
theorem k_660 : (Cond.instanceMethod yX6_takeToken) ∈ TBg := tb_mem 521 (by decide +kernel) (by decide +kernel)
theorem k_661 : (Cond.selects RX6 yX6_takeToken yX6_takeToken) ∈ TBg := tb_mem 1 (by decide +kernel) (by decide +kernel)
theorem k_662 : (Cond.code yX6_refuse cX6_refuse 1 (some .boolean)) ∈ TBg := tb_mem 603 (by decide +kernel) (by decide +kernel)
theorem k_663 : (Cond.methodLink RX6 53 yX6_refuse) ∈ TBg := tb_mem 600 (by decide +kernel) (by decide +kernel)
theorem k_664 : (Cond.instanceMethod yX6_refuse) ∈ TBg := tb_mem 602 (by decide +kernel) (by decide +kernel)
theorem k_665 : (Cond.selects RX6 yX6_refuse yX6_refuse) ∈ TBg := tb_mem 8 (by decide +kernel) (by decide +kernel)
theorem k_666 : (Cond.code yX6_takeNumber cX6_takeNumber 3 (some .boolean)) ∈ TBg := tb_mem 623 (by decide +kernel) (by decide +kernel)
theorem k_667 : (Cond.methodLink RX6 101 yX6_takeNumber) ∈ TBg := tb_mem 620 (by decide +kernel) (by decide +kernel)
theorem k_668 : (Cond.instanceMethod yX6_takeNumber) ∈ TBg := tb_mem 622 (by decide +kernel) (by decide +kernel)
theorem k_669 : (Cond.selects RX6 yX6_takeNumber yX6_takeNumber) ∈ TBg := tb_mem 12 (by decide +kernel) (by decide +kernel)
theorem k_670 : (Cond.methodLink RX6 105 yX8_add) ∈ TBg := tb_mem 624 (by decide +kernel) (by decide +kernel)
theorem k_671 : (Cond.code yX9_tuneNamed cX9_tuneNamed 4 (some .int)) ∈ TBg := tb_mem 611 (by decide +kernel) (by decide +kernel)
theorem k_672 : (Cond.methodLink RX6 70 yX9_tuneNamed) ∈ TBg := tb_mem 608 (by decide +kernel) (by decide +kernel)
theorem k_673 : (Cond.instanceMethod yX9_tuneNamed) ∈ TBg := tb_mem 609 (by decide +kernel) (by decide +kernel)
theorem k_674 : (Cond.selects RX9 yX9_tuneNamed yX9_tuneNamed) ∈ TBg := tb_mem 610 (by decide +kernel) (by decide +kernel)
theorem k_675 : (Cond.code yX6_take cX6_take 2 (some .boolean)) ∈ TBg := tb_mem 615 (by decide +kernel) (by decide +kernel)
theorem k_676 : (Cond.methodLink RX6 82 yX6_take) ∈ TBg := tb_mem 612 (by decide +kernel) (by decide +kernel)
theorem k_677 : (Cond.instanceMethod yX6_take) ∈ TBg := tb_mem 614 (by decide +kernel) (by decide +kernel)
theorem k_678 : (Cond.selects RX6 yX6_take yX6_take) ∈ TBg := tb_mem 10 (by decide +kernel) (by decide +kernel)
theorem k_679 : (Cond.code yX6_readNotes cX6_readNotes 5 (some .boolean)) ∈ TBg := tb_mem 619 (by decide +kernel) (by decide +kernel)
theorem k_680 : (Cond.methodLink RX6 89 yX6_readNotes) ∈ TBg := tb_mem 616 (by decide +kernel) (by decide +kernel)
theorem k_681 : (Cond.instanceMethod yX6_readNotes) ∈ TBg := tb_mem 618 (by decide +kernel) (by decide +kernel)
theorem k_682 : (Cond.selects RX6 yX6_readNotes yX6_readNotes) ∈ TBg := tb_mem 11 (by decide +kernel) (by decide +kernel)
theorem k_683 : (Cond.fieldLink RX9 62 "TuneLocks$Town" "SWEET_UNTOLD" "[I") ∈ TBg := tb_mem 676 (by decide +kernel) (by decide +kernel)
theorem dX6_fail_0 : decode cX6_fail 0 = .ok (.aload_n 0, 1) := by decide +kernel
theorem dX6_fail_1 : decode cX6_fail 1 = .ok (.iload_n 1, 1) := by decide +kernel
theorem dX6_fail_2 : decode cX6_fail 2 = .ok (.putfield 170, 3) := by decide +kernel
theorem dX6_fail_5 : decode cX6_fail 5 = .ok (.aload_n 0, 1) := by decide +kernel
theorem dX6_fail_6 : decode cX6_fail 6 = .ok (.aload_n 0, 1) := by decide +kernel
theorem dX6_fail_7 : decode cX6_fail 7 = .ok (.getfield 173, 3) := by decide +kernel
theorem dX6_fail_10 : decode cX6_fail 10 = .ok (.putfield 9, 3) := by decide +kernel
theorem dX6_fail_13 : decode cX6_fail 13 = .ok (.iconst 0, 1) := by decide +kernel
theorem dX6_fail_14 : decode cX6_fail 14 = .ok (.ireturn, 1) := by decide +kernel
theorem dX6_refuse_0 : decode cX6_refuse 0 = .ok (.aload_n 0, 1) := by decide +kernel
theorem dX6_refuse_1 : decode cX6_refuse 1 = .ok (.aload_n 0, 1) := by decide +kernel
theorem dX6_refuse_2 : decode cX6_refuse 2 = .ok (.getfield 40, 3) := by decide +kernel
theorem dX6_refuse_5 : decode cX6_refuse 5 = .ok (.bipush 18, 2) := by decide +kernel
theorem dX6_refuse_7 : decode cX6_refuse 7 = .ok (.if_icmp .ne 7, 3) := by decide +kernel
theorem dX6_refuse_14 : decode cX6_refuse 14 = .ok (.iconst 2, 1) := by decide +kernel
theorem dX6_refuse_15 : decode cX6_refuse 15 = .ok (.invokevirtual 74, 3) := by decide +kernel
theorem dX6_refuse_18 : decode cX6_refuse 18 = .ok (.ireturn, 1) := by decide +kernel
theorem dX6_refuse_10 : decode cX6_refuse 10 = .ok (.iconst 1, 1) := by decide +kernel
theorem dX6_refuse_11 : decode cX6_refuse 11 = .ok (.goto 4, 3) := by decide +kernel
theorem dX6_take_0 : decode cX6_take 0 = .ok (.aload_n 0, 1) := by decide +kernel
theorem dX6_take_1 : decode cX6_take 1 = .ok (.getfield 40, 3) := by decide +kernel
theorem dX6_take_4 : decode cX6_take 4 = .ok (.iload_n 1, 1) := by decide +kernel
theorem dX6_take_5 : decode cX6_take 5 = .ok (.if_icmp .eq 8, 3) := by decide +kernel
theorem dX6_take_13 : decode cX6_take 13 = .ok (.aload_n 0, 1) := by decide +kernel
theorem dX6_take_14 : decode cX6_take 14 = .ok (.invokevirtual 37, 3) := by decide +kernel
theorem dX6_take_17 : decode cX6_take 17 = .ok (.iconst 1, 1) := by decide +kernel
theorem dX6_take_18 : decode cX6_take 18 = .ok (.ireturn, 1) := by decide +kernel
theorem dX6_take_8 : decode cX6_take 8 = .ok (.aload_n 0, 1) := by decide +kernel
theorem dX6_take_9 : decode cX6_take 9 = .ok (.invokevirtual 53, 3) := by decide +kernel
theorem dX6_take_12 : decode cX6_take 12 = .ok (.ireturn, 1) := by decide +kernel
theorem dX6_takeNumber_0 : decode cX6_takeNumber 0 = .ok (.aload_n 0, 1) := by decide +kernel
theorem dX6_takeNumber_1 : decode cX6_takeNumber 1 = .ok (.getfield 40, 3) := by decide +kernel
theorem dX6_takeNumber_4 : decode cX6_takeNumber 4 = .ok (.bipush 16, 2) := by decide +kernel
theorem dX6_takeNumber_6 : decode cX6_takeNumber 6 = .ok (.if_icmp .eq 8, 3) := by decide +kernel
theorem dX6_takeNumber_14 : decode cX6_takeNumber 14 = .ok (.aload_n 0, 1) := by decide +kernel
theorem dX6_takeNumber_15 : decode cX6_takeNumber 15 = .ok (.getfield 98, 3) := by decide +kernel
theorem dX6_takeNumber_18 : decode cX6_takeNumber 18 = .ok (.iload_n 1, 1) := by decide +kernel
theorem dX6_takeNumber_19 : decode cX6_takeNumber 19 = .ok (.if_icmp .lt 11, 3) := by decide +kernel
theorem dX6_takeNumber_30 : decode cX6_takeNumber 30 = .ok (.aload_n 0, 1) := by decide +kernel
theorem dX6_takeNumber_31 : decode cX6_takeNumber 31 = .ok (.iconst 4, 1) := by decide +kernel
theorem dX6_takeNumber_32 : decode cX6_takeNumber 32 = .ok (.invokevirtual 74, 3) := by decide +kernel
theorem dX6_takeNumber_35 : decode cX6_takeNumber 35 = .ok (.ireturn, 1) := by decide +kernel
theorem dX6_takeNumber_22 : decode cX6_takeNumber 22 = .ok (.aload_n 0, 1) := by decide +kernel
theorem dX6_takeNumber_23 : decode cX6_takeNumber 23 = .ok (.getfield 98, 3) := by decide +kernel
theorem dX6_takeNumber_26 : decode cX6_takeNumber 26 = .ok (.iload_n 2, 1) := by decide +kernel
theorem dX6_takeNumber_27 : decode cX6_takeNumber 27 = .ok (.if_icmp .le 9, 3) := by decide +kernel
theorem dX6_takeNumber_36 : decode cX6_takeNumber 36 = .ok (.aload_n 0, 1) := by decide +kernel
theorem dX6_takeNumber_37 : decode cX6_takeNumber 37 = .ok (.invokevirtual 37, 3) := by decide +kernel
theorem dX6_takeNumber_40 : decode cX6_takeNumber 40 = .ok (.iconst 1, 1) := by decide +kernel
theorem dX6_takeNumber_41 : decode cX6_takeNumber 41 = .ok (.ireturn, 1) := by decide +kernel
theorem dX6_takeNumber_9 : decode cX6_takeNumber 9 = .ok (.aload_n 0, 1) := by decide +kernel
theorem dX6_takeNumber_10 : decode cX6_takeNumber 10 = .ok (.invokevirtual 53, 3) := by decide +kernel
theorem dX6_takeNumber_13 : decode cX6_takeNumber 13 = .ok (.ireturn, 1) := by decide +kernel
theorem dX6_readNotes_0 : decode cX6_readNotes 0 = .ok (.aload_n 1, 1) := by decide +kernel
theorem dX6_readNotes_1 : decode cX6_readNotes 1 = .ok (.iconst 0, 1) := by decide +kernel
theorem dX6_readNotes_2 : decode cX6_readNotes 2 = .ok (.putfield 93, 3) := by decide +kernel
theorem dX6_readNotes_5 : decode cX6_readNotes 5 = .ok (.iconst 0, 1) := by decide +kernel
theorem dX6_readNotes_6 : decode cX6_readNotes 6 = .ok (.istore_n 2, 1) := by decide +kernel
theorem dX6_readNotes_7 : decode cX6_readNotes 7 = .ok (.iload_n 2, 1) := by decide +kernel
theorem dX6_readNotes_8 : decode cX6_readNotes 8 = .ok (.bipush 12, 2) := by decide +kernel
theorem dX6_readNotes_10 : decode cX6_readNotes 10 = .ok (.if_icmp .ge 64, 3) := by decide +kernel
theorem dX6_readNotes_74 : decode cX6_readNotes 74 = .ok (.iconst 1, 1) := by decide +kernel
theorem dX6_readNotes_75 : decode cX6_readNotes 75 = .ok (.ireturn, 1) := by decide +kernel
theorem dX6_readNotes_13 : decode cX6_readNotes 13 = .ok (.iload_n 2, 1) := by decide +kernel
theorem dX6_readNotes_14 : decode cX6_readNotes 14 = .ok (.ifCond .eq 12, 3) := by decide +kernel
theorem dX6_readNotes_26 : decode cX6_readNotes 26 = .ok (.aload_n 0, 1) := by decide +kernel
theorem dX6_readNotes_27 : decode cX6_readNotes 27 = .ok (.getfield 98, 3) := by decide +kernel
theorem dX6_readNotes_30 : decode cX6_readNotes 30 = .ok (.istore_n 3, 1) := by decide +kernel
theorem dX6_readNotes_31 : decode cX6_readNotes 31 = .ok (.aload_n 0, 1) := by decide +kernel
theorem dX6_readNotes_32 : decode cX6_readNotes 32 = .ok (.iconst 0, 1) := by decide +kernel
theorem dX6_readNotes_33 : decode cX6_readNotes 33 = .ok (.bipush 60, 2) := by decide +kernel
theorem dX6_readNotes_35 : decode cX6_readNotes 35 = .ok (.invokevirtual 101, 3) := by decide +kernel
theorem dX6_readNotes_38 : decode cX6_readNotes 38 = .ok (.ifCond .ne 5, 3) := by decide +kernel
theorem dX6_readNotes_43 : decode cX6_readNotes 43 = .ok (.aload_n 0, 1) := by decide +kernel
theorem dX6_readNotes_44 : decode cX6_readNotes 44 = .ok (.getfield 98, 3) := by decide +kernel
theorem dX6_readNotes_47 : decode cX6_readNotes 47 = .ok (.istore 4, 2) := by decide +kernel
theorem dX6_readNotes_49 : decode cX6_readNotes 49 = .ok (.aload_n 0, 1) := by decide +kernel
theorem dX6_readNotes_50 : decode cX6_readNotes 50 = .ok (.iconst 1, 1) := by decide +kernel
theorem dX6_readNotes_51 : decode cX6_readNotes 51 = .ok (.bipush 9, 2) := by decide +kernel
theorem dX6_readNotes_53 : decode cX6_readNotes 53 = .ok (.invokevirtual 101, 3) := by decide +kernel
theorem dX6_readNotes_56 : decode cX6_readNotes 56 = .ok (.ifCond .ne 5, 3) := by decide +kernel
theorem dX6_readNotes_61 : decode cX6_readNotes 61 = .ok (.aload_n 1, 1) := by decide +kernel
theorem dX6_readNotes_62 : decode cX6_readNotes 62 = .ok (.iload_n 3, 1) := by decide +kernel
theorem dX6_readNotes_63 : decode cX6_readNotes 63 = .ok (.iload 4, 2) := by decide +kernel
theorem dX6_readNotes_65 : decode cX6_readNotes 65 = .ok (.invokevirtual 105, 3) := by decide +kernel
theorem dX6_readNotes_68 : decode cX6_readNotes 68 = .ok (.iinc 2 1, 3) := by decide +kernel
theorem dX6_readNotes_71 : decode cX6_readNotes 71 = .ok (.goto (-64), 3) := by decide +kernel
theorem dX6_readNotes_59 : decode cX6_readNotes 59 = .ok (.iconst 0, 1) := by decide +kernel
theorem dX6_readNotes_60 : decode cX6_readNotes 60 = .ok (.ireturn, 1) := by decide +kernel
theorem dX6_readNotes_41 : decode cX6_readNotes 41 = .ok (.iconst 0, 1) := by decide +kernel
theorem dX6_readNotes_42 : decode cX6_readNotes 42 = .ok (.ireturn, 1) := by decide +kernel
theorem dX6_readNotes_17 : decode cX6_readNotes 17 = .ok (.aload_n 0, 1) := by decide +kernel
theorem dX6_readNotes_18 : decode cX6_readNotes 18 = .ok (.getfield 40, 3) := by decide +kernel
theorem dX6_readNotes_21 : decode cX6_readNotes 21 = .ok (.bipush 16, 2) := by decide +kernel
theorem dX6_readNotes_23 : decode cX6_readNotes 23 = .ok (.if_icmp .ne 51, 3) := by decide +kernel
theorem dX6_beginsUnit_0 : decode cX6_beginsUnit 0 = .ok (.aload_n 0, 1) := by decide +kernel
theorem dX6_beginsUnit_1 : decode cX6_beginsUnit 1 = .ok (.getfield 40, 3) := by decide +kernel
theorem dX6_beginsUnit_4 : decode cX6_beginsUnit 4 = .ok (.lookupswitch 78 #[(9, 76), (10, 76), (11, 76), (12, 76), (13, 76), (14, 76), (16, 76), (40, 76)], 76) := by decide +kernel
theorem dX6_beginsUnit_80 : decode cX6_beginsUnit 80 = .ok (.iconst 1, 1) := by decide +kernel
theorem dX6_beginsUnit_81 : decode cX6_beginsUnit 81 = .ok (.ireturn, 1) := by decide +kernel
theorem dX6_beginsUnit_82 : decode cX6_beginsUnit 82 = .ok (.iconst 0, 1) := by decide +kernel
theorem dX6_beginsUnit_83 : decode cX6_beginsUnit 83 = .ok (.ireturn, 1) := by decide +kernel
theorem dX6_readTune_0 : decode cX6_readTune 0 = .ok (.aload_n 0, 1) := by decide +kernel
theorem dX6_readTune_1 : decode cX6_readTune 1 = .ok (.getfield 28, 3) := by decide +kernel
theorem dX6_readTune_4 : decode cX6_readTune 4 = .ok (.getfield 63, 3) := by decide +kernel
theorem dX6_readTune_7 : decode cX6_readTune 7 = .ok (.bipush 14, 2) := by decide +kernel
theorem dX6_readTune_9 : decode cX6_readTune 9 = .ok (.if_icmp .lt 8, 3) := by decide +kernel
theorem dX6_readTune_17 : decode cX6_readTune 17 = .ok (.aload_n 0, 1) := by decide +kernel
theorem dX6_readTune_18 : decode cX6_readTune 18 = .ok (.invokevirtual 37, 3) := by decide +kernel
theorem dX6_readTune_21 : decode cX6_readTune 21 = .ok (.aload_n 0, 1) := by decide +kernel
theorem dX6_readTune_22 : decode cX6_readTune 22 = .ok (.getfield 40, 3) := by decide +kernel
theorem dX6_readTune_25 : decode cX6_readTune 25 = .ok (.bipush 15, 2) := by decide +kernel
theorem dX6_readTune_27 : decode cX6_readTune 27 = .ok (.if_icmp .eq 8, 3) := by decide +kernel
theorem dX6_readTune_35 : decode cX6_readTune 35 = .ok (.aload_n 0, 1) := by decide +kernel
theorem dX6_readTune_36 : decode cX6_readTune 36 = .ok (.getfield 28, 3) := by decide +kernel
theorem dX6_readTune_39 : decode cX6_readTune 39 = .ok (.aload_n 0, 1) := by decide +kernel
theorem dX6_readTune_40 : decode cX6_readTune 40 = .ok (.getfield 66, 3) := by decide +kernel
theorem dX6_readTune_43 : decode cX6_readTune 43 = .ok (.invokevirtual 70, 3) := by decide +kernel
theorem dX6_readTune_46 : decode cX6_readTune 46 = .ok (.iconst (-1), 1) := by decide +kernel
theorem dX6_readTune_47 : decode cX6_readTune 47 = .ok (.if_icmp .eq 9, 3) := by decide +kernel
theorem dX6_readTune_56 : decode cX6_readTune 56 = .ok (.aload_n 0, 1) := by decide +kernel
theorem dX6_readTune_57 : decode cX6_readTune 57 = .ok (.getfield 28, 3) := by decide +kernel
theorem dX6_readTune_60 : decode cX6_readTune 60 = .ok (.getfield 78, 3) := by decide +kernel
theorem dX6_readTune_63 : decode cX6_readTune 63 = .ok (.aload_n 0, 1) := by decide +kernel
theorem dX6_readTune_64 : decode cX6_readTune 64 = .ok (.getfield 28, 3) := by decide +kernel
theorem dX6_readTune_67 : decode cX6_readTune 67 = .ok (.getfield 63, 3) := by decide +kernel
theorem dX6_readTune_70 : decode cX6_readTune 70 = .ok (.aload_n 0, 1) := by decide +kernel
theorem dX6_readTune_71 : decode cX6_readTune 71 = .ok (.getfield 66, 3) := by decide +kernel
theorem dX6_readTune_74 : decode cX6_readTune 74 = .ok (.lastore, 1) := by decide +kernel
theorem dX6_readTune_75 : decode cX6_readTune 75 = .ok (.aload_n 0, 1) := by decide +kernel
theorem dX6_readTune_76 : decode cX6_readTune 76 = .ok (.invokevirtual 37, 3) := by decide +kernel
theorem dX6_readTune_79 : decode cX6_readTune 79 = .ok (.aload_n 0, 1) := by decide +kernel
theorem dX6_readTune_80 : decode cX6_readTune 80 = .ok (.iconst 3, 1) := by decide +kernel
theorem dX6_readTune_81 : decode cX6_readTune 81 = .ok (.invokevirtual 82, 3) := by decide +kernel
theorem dX6_readTune_84 : decode cX6_readTune 84 = .ok (.ifCond .eq 34, 3) := by decide +kernel
theorem dX6_readTune_118 : decode cX6_readTune 118 = .ok (.iconst 0, 1) := by decide +kernel
theorem dX6_readTune_119 : decode cX6_readTune 119 = .ok (.ireturn, 1) := by decide +kernel
theorem dX6_readTune_87 : decode cX6_readTune 87 = .ok (.aload_n 0, 1) := by decide +kernel
theorem dX6_readTune_88 : decode cX6_readTune 88 = .ok (.aload_n 0, 1) := by decide +kernel
theorem dX6_readTune_89 : decode cX6_readTune 89 = .ok (.getfield 28, 3) := by decide +kernel
theorem dX6_readTune_92 : decode cX6_readTune 92 = .ok (.getfield 85, 3) := by decide +kernel
theorem dX6_readTune_95 : decode cX6_readTune 95 = .ok (.aload_n 0, 1) := by decide +kernel
theorem dX6_readTune_96 : decode cX6_readTune 96 = .ok (.getfield 28, 3) := by decide +kernel
theorem dX6_readTune_99 : decode cX6_readTune 99 = .ok (.getfield 63, 3) := by decide +kernel
theorem dX6_readTune_102 : decode cX6_readTune 102 = .ok (.aaload, 1) := by decide +kernel
theorem dX6_readTune_103 : decode cX6_readTune 103 = .ok (.invokevirtual 89, 3) := by decide +kernel
theorem dX6_readTune_106 : decode cX6_readTune 106 = .ok (.ifCond .eq 12, 3) := by decide +kernel
theorem dX6_readTune_109 : decode cX6_readTune 109 = .ok (.aload_n 0, 1) := by decide +kernel
theorem dX6_readTune_110 : decode cX6_readTune 110 = .ok (.bipush 59, 2) := by decide +kernel
theorem dX6_readTune_112 : decode cX6_readTune 112 = .ok (.invokevirtual 82, 3) := by decide +kernel
theorem dX6_readTune_115 : decode cX6_readTune 115 = .ok (.ifCond .ne 5, 3) := by decide +kernel
theorem dX6_readTune_120 : decode cX6_readTune 120 = .ok (.aload_n 0, 1) := by decide +kernel
theorem dX6_readTune_121 : decode cX6_readTune 121 = .ok (.getfield 28, 3) := by decide +kernel
theorem dX6_readTune_124 : decode cX6_readTune 124 = .ok (.dup, 1) := by decide +kernel
theorem dX6_readTune_125 : decode cX6_readTune 125 = .ok (.getfield 63, 3) := by decide +kernel
theorem dX6_readTune_128 : decode cX6_readTune 128 = .ok (.iconst 1, 1) := by decide +kernel
theorem dX6_readTune_129 : decode cX6_readTune 129 = .ok (.iadd, 1) := by decide +kernel
theorem dX6_readTune_130 : decode cX6_readTune 130 = .ok (.putfield 63, 3) := by decide +kernel
theorem dX6_readTune_133 : decode cX6_readTune 133 = .ok (.iconst 1, 1) := by decide +kernel
theorem dX6_readTune_134 : decode cX6_readTune 134 = .ok (.ireturn, 1) := by decide +kernel
theorem dX6_readTune_50 : decode cX6_readTune 50 = .ok (.aload_n 0, 1) := by decide +kernel
theorem dX6_readTune_51 : decode cX6_readTune 51 = .ok (.iconst 3, 1) := by decide +kernel
theorem dX6_readTune_52 : decode cX6_readTune 52 = .ok (.invokevirtual 74, 3) := by decide +kernel
theorem dX6_readTune_55 : decode cX6_readTune 55 = .ok (.ireturn, 1) := by decide +kernel
theorem dX6_readTune_30 : decode cX6_readTune 30 = .ok (.aload_n 0, 1) := by decide +kernel
theorem dX6_readTune_31 : decode cX6_readTune 31 = .ok (.invokevirtual 53, 3) := by decide +kernel
theorem dX6_readTune_34 : decode cX6_readTune 34 = .ok (.ireturn, 1) := by decide +kernel
theorem dX6_readTune_12 : decode cX6_readTune 12 = .ok (.aload_n 0, 1) := by decide +kernel
theorem dX6_readTune_13 : decode cX6_readTune 13 = .ok (.invokevirtual 53, 3) := by decide +kernel
theorem dX6_readTune_16 : decode cX6_readTune 16 = .ok (.ireturn, 1) := by decide +kernel
theorem dX6_readSweet_0 : decode cX6_readSweet 0 = .ok (.aload_n 0, 1) := by decide +kernel
theorem dX6_readSweet_1 : decode cX6_readSweet 1 = .ok (.getfield 56, 3) := by decide +kernel
theorem dX6_readSweet_4 : decode cX6_readSweet 4 = .ok (.ifCond .eq 8, 3) := by decide +kernel
theorem dX6_readSweet_12 : decode cX6_readSweet 12 = .ok (.aload_n 0, 1) := by decide +kernel
theorem dX6_readSweet_13 : decode cX6_readSweet 13 = .ok (.iconst 1, 1) := by decide +kernel
theorem dX6_readSweet_14 : decode cX6_readSweet 14 = .ok (.putfield 56, 3) := by decide +kernel
theorem dX6_readSweet_17 : decode cX6_readSweet 17 = .ok (.aload_n 0, 1) := by decide +kernel
theorem dX6_readSweet_18 : decode cX6_readSweet 18 = .ok (.invokevirtual 37, 3) := by decide +kernel
theorem dX6_readSweet_21 : decode cX6_readSweet 21 = .ok (.iconst 0, 1) := by decide +kernel
theorem dX6_readSweet_22 : decode cX6_readSweet 22 = .ok (.istore_n 1, 1) := by decide +kernel
theorem dX6_readSweet_23 : decode cX6_readSweet 23 = .ok (.iload_n 1, 1) := by decide +kernel
theorem dX6_readSweet_24 : decode cX6_readSweet 24 = .ok (.bipush 12, 2) := by decide +kernel
theorem dX6_readSweet_26 : decode cX6_readSweet 26 = .ok (.if_icmp .ge 82, 3) := by decide +kernel
theorem dX6_readSweet_108 : decode cX6_readSweet 108 = .ok (.aload_n 0, 1) := by decide +kernel
theorem dX6_readSweet_109 : decode cX6_readSweet 109 = .ok (.bipush 59, 2) := by decide +kernel
theorem dX6_readSweet_111 : decode cX6_readSweet 111 = .ok (.invokevirtual 82, 3) := by decide +kernel
theorem dX6_readSweet_114 : decode cX6_readSweet 114 = .ok (.ireturn, 1) := by decide +kernel
theorem dX6_readSweet_29 : decode cX6_readSweet 29 = .ok (.iload_n 1, 1) := by decide +kernel
theorem dX6_readSweet_30 : decode cX6_readSweet 30 = .ok (.ifCond .eq 12, 3) := by decide +kernel
theorem dX6_readSweet_42 : decode cX6_readSweet 42 = .ok (.aload_n 0, 1) := by decide +kernel
theorem dX6_readSweet_43 : decode cX6_readSweet 43 = .ok (.getfield 98, 3) := by decide +kernel
theorem dX6_readSweet_46 : decode cX6_readSweet 46 = .ok (.istore_n 2, 1) := by decide +kernel
theorem dX6_readSweet_47 : decode cX6_readSweet 47 = .ok (.aload_n 0, 1) := by decide +kernel
theorem dX6_readSweet_48 : decode cX6_readSweet 48 = .ok (.getfield 40, 3) := by decide +kernel
theorem dX6_readSweet_51 : decode cX6_readSweet 51 = .ok (.bipush 16, 2) := by decide +kernel
theorem dX6_readSweet_53 : decode cX6_readSweet 53 = .ok (.if_icmp .ne 27, 3) := by decide +kernel
theorem dX6_readSweet_80 : decode cX6_readSweet 80 = .ok (.aload_n 0, 1) := by decide +kernel
theorem dX6_readSweet_81 : decode cX6_readSweet 81 = .ok (.iconst 0, 1) := by decide +kernel
theorem dX6_readSweet_82 : decode cX6_readSweet 82 = .ok (.bipush 11, 2) := by decide +kernel
theorem dX6_readSweet_84 : decode cX6_readSweet 84 = .ok (.invokevirtual 101, 3) := by decide +kernel
theorem dX6_readSweet_87 : decode cX6_readSweet 87 = .ok (.ifCond .ne 5, 3) := by decide +kernel
theorem dX6_readSweet_92 : decode cX6_readSweet 92 = .ok (.aload_n 0, 1) := by decide +kernel
theorem dX6_readSweet_93 : decode cX6_readSweet 93 = .ok (.getfield 28, 3) := by decide +kernel
theorem dX6_readSweet_96 : decode cX6_readSweet 96 = .ok (.getfield 144, 3) := by decide +kernel
theorem dX6_readSweet_99 : decode cX6_readSweet 99 = .ok (.iload_n 2, 1) := by decide +kernel
theorem dX6_readSweet_100 : decode cX6_readSweet 100 = .ok (.iconst 1, 1) := by decide +kernel
theorem dX6_readSweet_101 : decode cX6_readSweet 101 = .ok (.bastore, 1) := by decide +kernel
theorem dX6_readSweet_102 : decode cX6_readSweet 102 = .ok (.iinc 1 1, 3) := by decide +kernel
theorem dX6_readSweet_105 : decode cX6_readSweet 105 = .ok (.goto (-82), 3) := by decide +kernel
theorem dX6_readSweet_90 : decode cX6_readSweet 90 = .ok (.iconst 0, 1) := by decide +kernel
theorem dX6_readSweet_91 : decode cX6_readSweet 91 = .ok (.ireturn, 1) := by decide +kernel
theorem dX6_readSweet_56 : decode cX6_readSweet 56 = .ok (.iload_n 2, 1) := by decide +kernel
theorem dX6_readSweet_57 : decode cX6_readSweet 57 = .ok (.bipush 12, 2) := by decide +kernel
theorem dX6_readSweet_59 : decode cX6_readSweet 59 = .ok (.if_icmp .ge 21, 3) := by decide +kernel
theorem dX6_readSweet_62 : decode cX6_readSweet 62 = .ok (.aload_n 0, 1) := by decide +kernel
theorem dX6_readSweet_63 : decode cX6_readSweet 63 = .ok (.getfield 28, 3) := by decide +kernel
theorem dX6_readSweet_66 : decode cX6_readSweet 66 = .ok (.getfield 144, 3) := by decide +kernel
theorem dX6_readSweet_69 : decode cX6_readSweet 69 = .ok (.iload_n 2, 1) := by decide +kernel
theorem dX6_readSweet_70 : decode cX6_readSweet 70 = .ok (.baload, 1) := by decide +kernel
theorem dX6_readSweet_71 : decode cX6_readSweet 71 = .ok (.ifCond .eq 9, 3) := by decide +kernel
theorem dX6_readSweet_74 : decode cX6_readSweet 74 = .ok (.aload_n 0, 1) := by decide +kernel
theorem dX6_readSweet_75 : decode cX6_readSweet 75 = .ok (.iconst 3, 1) := by decide +kernel
theorem dX6_readSweet_76 : decode cX6_readSweet 76 = .ok (.invokevirtual 74, 3) := by decide +kernel
theorem dX6_readSweet_79 : decode cX6_readSweet 79 = .ok (.ireturn, 1) := by decide +kernel
theorem dX6_readSweet_33 : decode cX6_readSweet 33 = .ok (.aload_n 0, 1) := by decide +kernel
theorem dX6_readSweet_34 : decode cX6_readSweet 34 = .ok (.getfield 40, 3) := by decide +kernel
theorem dX6_readSweet_37 : decode cX6_readSweet 37 = .ok (.bipush 16, 2) := by decide +kernel
theorem dX6_readSweet_39 : decode cX6_readSweet 39 = .ok (.if_icmp .ne 69, 3) := by decide +kernel
theorem dX6_readSweet_7 : decode cX6_readSweet 7 = .ok (.aload_n 0, 1) := by decide +kernel
theorem dX6_readSweet_8 : decode cX6_readSweet 8 = .ok (.invokevirtual 53, 3) := by decide +kernel
theorem dX6_readSweet_11 : decode cX6_readSweet 11 = .ok (.ireturn, 1) := by decide +kernel
theorem dX9_sweetenUntold_0 : decode cX9_sweetenUntold 0 = .ok (.iconst 0, 1) := by decide +kernel
theorem dX9_sweetenUntold_1 : decode cX9_sweetenUntold 1 = .ok (.istore_n 1, 1) := by decide +kernel
theorem dX9_sweetenUntold_2 : decode cX9_sweetenUntold 2 = .ok (.iload_n 1, 1) := by decide +kernel
theorem dX9_sweetenUntold_3 : decode cX9_sweetenUntold 3 = .ok (.getstatic 62, 3) := by decide +kernel
theorem dX9_sweetenUntold_6 : decode cX9_sweetenUntold 6 = .ok (.arraylength, 1) := by decide +kernel
theorem dX9_sweetenUntold_7 : decode cX9_sweetenUntold 7 = .ok (.if_icmp .ge 20, 3) := by decide +kernel
theorem dX9_sweetenUntold_27 : decode cX9_sweetenUntold 27 = .ok (.return_, 1) := by decide +kernel
theorem dX9_sweetenUntold_10 : decode cX9_sweetenUntold 10 = .ok (.aload_n 0, 1) := by decide +kernel
theorem dX9_sweetenUntold_11 : decode cX9_sweetenUntold 11 = .ok (.getfield 40, 3) := by decide +kernel
theorem dX9_sweetenUntold_14 : decode cX9_sweetenUntold 14 = .ok (.getstatic 62, 3) := by decide +kernel
theorem dX9_sweetenUntold_17 : decode cX9_sweetenUntold 17 = .ok (.iload_n 1, 1) := by decide +kernel
theorem dX9_sweetenUntold_18 : decode cX9_sweetenUntold 18 = .ok (.iaload, 1) := by decide +kernel
theorem dX9_sweetenUntold_19 : decode cX9_sweetenUntold 19 = .ok (.iconst 1, 1) := by decide +kernel
theorem dX9_sweetenUntold_20 : decode cX9_sweetenUntold 20 = .ok (.bastore, 1) := by decide +kernel
theorem dX9_sweetenUntold_21 : decode cX9_sweetenUntold 21 = .ok (.iinc 1 1, 3) := by decide +kernel
theorem dX9_sweetenUntold_24 : decode cX9_sweetenUntold 24 = .ok (.goto (-22), 3) := by decide +kernel
set_option maxHeartbeats 4000000 in
set_option maxRecDepth 100000 in
theorem r_fail (l : Launch) (G : va_G) (cy : Nat → ClassId) (sz : Nat) (L : List Nat) (K : Nat → Nat) (R : Nat → Nat → Nat) (T : Int) (I E : Nat → Nat → Int32) (J B : Nat → Nat → Int64) (this : Nat) (n : Int32) (hRT : RT L K R) (hI : IV T L K I) (hE : EV L K E) (hthis1 : this ∈ L) (hthis2 : K this = 12) : Met l yX6_fail (.code yX6_fail cX6_fail 2 (some .boolean) :: TBg) ({ frames := 1, cells := 0, slots := 0, locals := 64 }) (va_Pc [.ref this, .int n] (En G cy (WC cy L K R I J E B) sz)) (va_Qi (fun (r : Int32) (u : (Nat → Nat → Int32) × (Nat → Nat → Int64) × (Nat → Nat → Int32) × (Nat → Nat → Int64)) => IV T L K u.1 ∧ EV L K u.2.2.1 ∧ FI [(12, 9), (12, 10)] K I u.1 ∧ ((r.toInt = 0 ∨ r.toInt = 1) ∧ (0 ≤ r.toInt ∧ r.toInt ≤ 0))) (fun u t => Ex G (va_A (WC cy L K R I J E B) sz) (WC cy L K R u.1 u.2.1 u.2.2.1 u.2.2.2) t) (va_A (WC cy L K R I J E B) sz)) 0 0 (va_A (WC cy L K R I J E B) sz) := by
  have hthis : this ∈ L ∧ K this = 12 := ⟨hthis1, hthis2⟩
  refine Met.ofW (cc := cX6_fail) (maxL := 2) (ret := (some .boolean)) (by decide) rfl ?_
  intro p e s m args below meth c s₁ B9 hml hv9
  obtain ⟨rfl, hsz, hP, hK, hD0, hN⟩ := hv9
  have hx := B9.exec
  have hb := B9.bytes
  have hr := B9.returns
  have hts := atoms_spec (ws := .code yX6_fail cX6_fail 2 (some .boolean) :: TBg) B9.pre
  have ht : ∀ w ∈ TBg, w.before _ s = true := fun w h => hts w (List.mem_cons_of_mem _ h)
  have hown : s.vm.findClass RX6 = some m.cls := findClass_of_methodNamed B9.named
  have hlocks := B9.notSynchronized
  subst hsz
  have hD := hD0.self (sz := s.heap.size)
  generalize hAe : va_A (WC cy L K R I J E B) s.heap.size = A at hD ⊢
  have hA : ∀ q : Nat, s.heap.size ≤ q → A q := fun q h => by rw [← hAe]; exact Or.inr h
  have hS : va_S A s.heap s.heap [] := va_S.rf
  have hl := lv_entry ([.ref this, .int n]) (n := 2) (Nat.le_of_ble_eq_true rfl)
  rw [lg_entry_eq]
  generalize (lg_sl ([.ref this, .int n]) ++ List.replicate (2 - (lg_sl ([.ref this, .int n])).length) Slot.unset).toArray = ls at hl ⊢
  have hl : lv_has ls 2 [(0, .ref this), (1, .int n)] := hl
  have z0 : (0 : Int32).toInt = 0 := by decide
  have hC_0 : FI [(12, 9), (12, 10)] K I I := FI.rf
  refine lv_aload_n hx hb dX6_fail_0 rfl (lv_at hl 0 rfl) ?_
  refine lv_iload_n hx hb dX6_fail_1 rfl (lv_at hl 1 rfl) ?_
  refine cp_12_9_6 hx hb ht hown hK hN hP hD hS hthis.1 hthis.2 dX6_fail_2 (fun H locs hP hD hS => ?_)
  replace hI := IV.up hI hthis.2 9 (ow_any n)
  have f_1 : FI [(12, 9)] K I (va_up I this (va_up (I this) 9 n)) := FI.up hthis.2 9 n
  have e_2 : (va_up I this (va_up (I this) 9 n)) this 9 = n := FI.at I this 9 n
  replace hC_0 := FI.tr hC_0 f_1 (by decide)
  generalize (va_up I this (va_up (I this) 9 n)) = I_3 at hP hD hI f_1 e_2 hC_0
  refine lv_aload_n hx hb dX6_fail_5 rfl (lv_at hl 0 rfl) ?_
  refine lv_aload_n hx hb dX6_fail_6 rfl (lv_at hl 0 rfl) ?_
  refine cg_12_5_6 hx hb ht hown hK hN hP hthis.1 hthis.2 dX6_fail_7 ?_
  refine ow_top (I this 5) (f_1 this 5 (by rw [hthis.2]; decide)) ?_
  have q_4 : 0 ≤ (I this 5).toInt ∧ (I this 5).toInt ≤ 1700 := by have h9 : I_3 this 5 = (I this 5) := (f_1 this 5 (by rw [hthis.2]; decide)); rw [← h9]; exact IV.rd hI hthis.1 hthis.2 5
  refine cp_12_10_6 hx hb ht hown hK hN hP hD hS hthis.1 hthis.2 dX6_fail_10 (fun H locs hP hD hS => ?_)
  replace hI := IV.up hI hthis.2 10 (ow_any (I this 5))
  have f_5 : FI [(12, 10)] K I_3 (va_up I_3 this (va_up (I_3 this) 10 (I this 5))) := FI.up hthis.2 10 (I this 5)
  have e_6 : (va_up I_3 this (va_up (I_3 this) 10 (I this 5))) this 10 = (I this 5) := FI.at I_3 this 10 (I this 5)
  replace hC_0 := FI.tr hC_0 f_5 (by decide)
  generalize (va_up I_3 this (va_up (I_3 this) 10 (I this 5))) = I_7 at hP hD hI f_5 e_6 hC_0
  refine lv_iconst (v := 0) hx hb dX6_fail_13 (by decide) ?_
  refine W.widen (k := 0) (n := 0) (Nat.le_of_ble_eq_true rfl) (Nat.le_of_ble_eq_true rfl) ?_
  exact W.zret (v := 0) hx hb hr rfl (fun t ht9 hW => ⟨⟨0, (I_7, J, E, B), rfl, ⟨hI, hE, hC_0, ⟨(by omega), (by omega)⟩⟩, ⟨by rw [ht9]; exact hP, hD⟩⟩, hS.F ht9⟩) hS.2.2 dX6_fail_14
set_option maxHeartbeats 4000000 in
set_option maxRecDepth 100000 in
theorem r_refuse (l : Launch) (G : va_G) (cy : Nat → ClassId) (sz : Nat) (L : List Nat) (K : Nat → Nat) (R : Nat → Nat → Nat) (T : Int) (I E : Nat → Nat → Int32) (J B : Nat → Nat → Int64) (this : Nat)  (hRT : RT L K R) (hI : IV T L K I) (hE : EV L K E) (hthis1 : this ∈ L) (hthis2 : K this = 12) : Met l yX6_refuse (.code yX6_refuse cX6_refuse 1 (some .boolean) :: TBg) ({ frames := 2, cells := 0, slots := 0, locals := 128 }) (va_Pc [.ref this] (En G cy (WC cy L K R I J E B) sz)) (va_Qi (fun (r : Int32) (u : (Nat → Nat → Int32) × (Nat → Nat → Int64) × (Nat → Nat → Int32) × (Nat → Nat → Int64)) => IV T L K u.1 ∧ EV L K u.2.2.1 ∧ FI [(12, 9), (12, 10)] K I u.1 ∧ ((r.toInt = 0 ∨ r.toInt = 1) ∧ (0 ≤ r.toInt ∧ r.toInt ≤ 0))) (fun u t => Ex G (va_A (WC cy L K R I J E B) sz) (WC cy L K R u.1 u.2.1 u.2.2.1 u.2.2.2) t) (va_A (WC cy L K R I J E B) sz)) 0 0 (va_A (WC cy L K R I J E B) sz) := by
  have hthis : this ∈ L ∧ K this = 12 := ⟨hthis1, hthis2⟩
  refine Met.ofW (cc := cX6_refuse) (maxL := 1) (ret := (some .boolean)) (by decide) rfl ?_
  intro p e s m args below meth c s₁ B9 hml hv9
  obtain ⟨rfl, hsz, hP, hK, hD0, hN⟩ := hv9
  have hx := B9.exec
  have hb := B9.bytes
  have hr := B9.returns
  have hts := atoms_spec (ws := .code yX6_refuse cX6_refuse 1 (some .boolean) :: TBg) B9.pre
  have ht : ∀ w ∈ TBg, w.before _ s = true := fun w h => hts w (List.mem_cons_of_mem _ h)
  have hown : s.vm.findClass RX6 = some m.cls := findClass_of_methodNamed B9.named
  have hlocks := B9.notSynchronized
  subst hsz
  have hD := hD0.self (sz := s.heap.size)
  generalize hAe : va_A (WC cy L K R I J E B) s.heap.size = A at hD ⊢
  have hA : ∀ q : Nat, s.heap.size ≤ q → A q := fun q h => by rw [← hAe]; exact Or.inr h
  have hS : va_S A s.heap s.heap [] := va_S.rf
  have hl := lv_entry ([.ref this]) (n := 1) (Nat.le_of_ble_eq_true rfl)
  rw [lg_entry_eq]
  generalize (lg_sl ([.ref this]) ++ List.replicate (1 - (lg_sl ([.ref this])).length) Slot.unset).toArray = ls at hl ⊢
  have hl : lv_has ls 1 [(0, .ref this)] := hl
  have z0 : (0 : Int32).toInt = 0 := by decide
  have z1 : (1 : Int32).toInt = 1 := by decide
  have z2 : (2 : Int32).toInt = 2 := by decide
  have z3 : (18 : Int32).toInt = 18 := by decide
  have hC_0 : FI [(12, 9), (12, 10)] K I I := FI.rf
  refine lv_aload_n hx hb dX6_refuse_0 rfl (lv_at hl 0 rfl) ?_
  refine lv_aload_n hx hb dX6_refuse_1 rfl (lv_at hl 0 rfl) ?_
  refine cg_12_4_6 hx hb ht hown hK hN hP hthis.1 hthis.2 dX6_refuse_2 ?_
  refine lv_bipush (v := 18) hx hb dX6_refuse_5 (by decide) ?_
  refine lv_icmp_ne (tgt := 14) hx hb dX6_refuse_7 (by decide) (fun c_1 => ?_) (fun c_1 => ?_)
  · have q_2 : ¬ (I this 4).toInt = (18 : Int32).toInt := by have := (not_congr (ow_eq _ _)).mp c_1; omega
    refine lv_iconst (v := 2) hx hb dX6_refuse_14 (by decide) ?_
    have hFc := fr_free hD hS hA
    refine va_calli (va_runV (As := [.int 2]) (rest := []) ⟨hx, hb, hml, hown, ht⟩ (r_fail l G cy _ L K R T I E J B this (2) hRT hI hE hthis.1 hthis.2) (cwV 1 ht (gv k_655 k_656 k_657 k_633 k_654) rfl rfl rfl (by decide +kernel) ⟨Nat.le_of_ble_eq_true rfl, Nat.le_of_ble_eq_true rfl⟩) ⟨En.blind, cr_12 hK hP hthis.1 hthis.2, fun U hU hW => ⟨rfl, En.of hU hW hP hK hD hN⟩⟩ rfl rfl hl.1 rfl (lv_room (Nat.le_of_ble_eq_true rfl)) dX6_refuse_15 ⟨Nat.le_of_ble_eq_true rfl, Nat.le_of_ble_eq_true rfl⟩) hS (fun q _ h => hFc q h) hFc (fun r_u_3 u_3 t9 H locs ht9 hvm hw hB hz1 hk1 hS => ?_)
    obtain ⟨I3, J3, E3, B3⟩ := u_3
    obtain ⟨hP1, hD1⟩ := hB
    rw [ht9] at hP1
    clear hI hE
    obtain ⟨hI, hE, xu_3I, wu_3⟩ := hw
    dsimp only at hI hE xu_3I wu_3
    have hP : va_P G vwCl (WC cy L K R I3 J3 E3 B3) H := hP1
    have hD : va_D A (WC cy L K R I3 J3 E3 B3) := hD1.weaken (fun _ _ _ h => hFc _ h)
    clear hFc hk1 hz1 hP1 hD1
    replace hC_0 := FI.tr hC_0 xu_3I (by decide)
    obtain rfl : r_u_3 = 0 := (ow_eq _ _).mpr (by omega)
    refine W.widen (k := 0) (n := 0) (Nat.le_of_ble_eq_true rfl) (Nat.le_of_ble_eq_true rfl) ?_
    exact W.zret (v := 0) hx hb hr rfl (fun t ht9 hW => ⟨⟨0, (I3, J3, E3, B3), rfl, ⟨hI, hE, hC_0, ⟨(by omega), (by omega)⟩⟩, ⟨by rw [ht9]; exact hP, hD⟩⟩, hS.F ht9⟩) hS.2.2 dX6_refuse_18
  · have q_4 : (I this 4).toInt = (18 : Int32).toInt := (ow_eq _ _).mp c_1
    refine lv_iconst (v := 1) hx hb dX6_refuse_10 (by decide) ?_
    refine lv_goto (tgt := 15) hx hb dX6_refuse_11 (by decide) ?_
    have hFc := fr_free hD hS hA
    refine va_calli (va_runV (As := [.int 1]) (rest := []) ⟨hx, hb, hml, hown, ht⟩ (r_fail l G cy _ L K R T I E J B this (1) hRT hI hE hthis.1 hthis.2) (cwV 1 ht (gv k_655 k_656 k_657 k_633 k_654) rfl rfl rfl (by decide +kernel) ⟨Nat.le_of_ble_eq_true rfl, Nat.le_of_ble_eq_true rfl⟩) ⟨En.blind, cr_12 hK hP hthis.1 hthis.2, fun U hU hW => ⟨rfl, En.of hU hW hP hK hD hN⟩⟩ rfl rfl hl.1 rfl (lv_room (Nat.le_of_ble_eq_true rfl)) dX6_refuse_15 ⟨Nat.le_of_ble_eq_true rfl, Nat.le_of_ble_eq_true rfl⟩) hS (fun q _ h => hFc q h) hFc (fun r_u_5 u_5 t9 H locs ht9 hvm hw hB hz1 hk1 hS => ?_)
    obtain ⟨I5, J5, E5, B5⟩ := u_5
    obtain ⟨hP1, hD1⟩ := hB
    rw [ht9] at hP1
    clear hI hE
    obtain ⟨hI, hE, xu_5I, wu_5⟩ := hw
    dsimp only at hI hE xu_5I wu_5
    have hP : va_P G vwCl (WC cy L K R I5 J5 E5 B5) H := hP1
    have hD : va_D A (WC cy L K R I5 J5 E5 B5) := hD1.weaken (fun _ _ _ h => hFc _ h)
    clear hFc hk1 hz1 hP1 hD1
    replace hC_0 := FI.tr hC_0 xu_5I (by decide)
    obtain rfl : r_u_5 = 0 := (ow_eq _ _).mpr (by omega)
    refine W.widen (k := 0) (n := 0) (Nat.le_of_ble_eq_true rfl) (Nat.le_of_ble_eq_true rfl) ?_
    exact W.zret (v := 0) hx hb hr rfl (fun t ht9 hW => ⟨⟨0, (I5, J5, E5, B5), rfl, ⟨hI, hE, hC_0, ⟨(by omega), (by omega)⟩⟩, ⟨by rw [ht9]; exact hP, hD⟩⟩, hS.F ht9⟩) hS.2.2 dX6_refuse_18
set_option maxHeartbeats 4000000 in
set_option maxRecDepth 100000 in
theorem r_take (l : Launch) (G : va_G) (cy : Nat → ClassId) (sz : Nat) (tq qq wq : Nat) (fo : Option Nat) (L : List Nat) (K : Nat → Nat) (R : Nat → Nat → Nat) (T : Int) (I E : Nat → Nat → Int32) (J B : Nat → Nat → Int64) (this : Nat) (n : Int32) (hRT : RT L K R) (hI : IV T L K I) (hE : EV L K E) (hthis1 : this ∈ L) (hthis2 : K this = 12) : Met l yX6_take (.code yX6_take cX6_take 2 (some .boolean) :: TBg) ({ frames := 7, cells := 0, slots := 0, locals := 448 }) (va_Pc [.ref this, .int n] (EnX G cy (WC cy L K R I J E B) sz tq qq wq fo (va_A (WC cy L K R I J E B) sz))) (va_Qi (fun (r : Int32) (u : (Nat → Nat → Int32) × (Nat → Nat → Int64) × (Nat → Nat → Int32) × (Nat → Nat → Int64)) => IV T L K u.1 ∧ EV L K u.2.2.1 ∧ FI [(12, 3), (12, 4), (12, 5), (12, 6), (12, 9), (12, 10)] K I u.1 ∧ ((r.toInt = 0 ∨ r.toInt = 1))) (fun u t => Ex G (va_A (WC cy L K R I J E B) sz) (WC cy L K R u.1 u.2.1 u.2.2.1 u.2.2.2) t) (va_A (WC cy L K R I J E B) sz)) 0 0 (va_A (WC cy L K R I J E B) sz) := by
  have hthis : this ∈ L ∧ K this = 12 := ⟨hthis1, hthis2⟩
  refine Met.ofW (cc := cX6_take) (maxL := 2) (ret := (some .boolean)) (by decide) rfl ?_
  intro p e s m args below meth c s₁ B9 hml hv9
  obtain ⟨rfl, ⟨hsz, hP, hK, hD0, hN⟩, hX⟩ := hv9
  have hx := B9.exec
  have hb := B9.bytes
  have hr := B9.returns
  have hts := atoms_spec (ws := .code yX6_take cX6_take 2 (some .boolean) :: TBg) B9.pre
  have ht : ∀ w ∈ TBg, w.before _ s = true := fun w h => hts w (List.mem_cons_of_mem _ h)
  have hown : s.vm.findClass RX6 = some m.cls := findClass_of_methodNamed B9.named
  have hlocks := B9.notSynchronized
  subst hsz
  have hD := hD0.self (sz := s.heap.size)
  generalize hAe : va_A (WC cy L K R I J E B) s.heap.size = A at hD hX ⊢
  have hA : ∀ q : Nat, s.heap.size ≤ q → A q := fun q h => by rw [← hAe]; exact Or.inr h
  have hS : va_S A s.heap s.heap [] := va_S.rf
  have hl := lv_entry ([.ref this, .int n]) (n := 2) (Nat.le_of_ble_eq_true rfl)
  rw [lg_entry_eq]
  generalize (lg_sl ([.ref this, .int n]) ++ List.replicate (2 - (lg_sl ([.ref this, .int n])).length) Slot.unset).toArray = ls at hl ⊢
  have hl : lv_has ls 2 [(0, .ref this), (1, .int n)] := hl
  have z0 : (0 : Int32).toInt = 0 := by decide
  have z1 : (1 : Int32).toInt = 1 := by decide
  have hC_0 : FI [(12, 3), (12, 4), (12, 5), (12, 6), (12, 9), (12, 10)] K I I := FI.rf
  refine lv_aload_n hx hb dX6_take_0 rfl (lv_at hl 0 rfl) ?_
  refine cg_12_4_6 hx hb ht hown hK hN hP hthis.1 hthis.2 dX6_take_1 ?_
  refine lv_iload_n hx hb dX6_take_4 rfl (lv_at hl 1 rfl) ?_
  refine lv_icmp_eq (tgt := 13) hx hb dX6_take_5 (by decide) (fun c_1 => ?_) (fun c_1 => ?_)
  · have q_2 : (I this 4).toInt = n.toInt := (ow_eq _ _).mp c_1
    refine lv_aload_n hx hb dX6_take_13 rfl (lv_at hl 0 rfl) ?_
    have hFc := fr_free hD hS hA
    refine va_callv (va_runV (As := []) (rest := []) ⟨hx, hb, hml, hown, ht⟩ (r_takeToken l G cy _ tq qq wq fo L K R T I E J B this hRT hI hE hthis.1 hthis.2) (cwV 0 ht (gv k_659 k_660 k_661 k_633 k_658) rfl rfl rfl (by decide +kernel) ⟨Nat.le_of_ble_eq_true rfl, Nat.le_of_ble_eq_true rfl⟩) ⟨EnX.blind, cr_12 hK hP hthis.1 hthis.2, fun U hU hW => ⟨rfl, En.of hU hW hP hK hD hN, XK.of hX hS hFc hU hW⟩⟩ rfl rfl hl.1 rfl (lv_room (Nat.le_of_ble_eq_true rfl)) dX6_take_14 ⟨Nat.le_of_ble_eq_true rfl, Nat.le_of_ble_eq_true rfl⟩) hS (fun q _ h => hFc q h) hFc (fun u_3 t9 H locs ht9 hvm hw hB hz1 hk1 hS => ?_)
    obtain ⟨I3, J3, E3, B3⟩ := u_3
    obtain ⟨hP1, hD1⟩ := hB
    rw [ht9] at hP1
    clear hI hE
    obtain ⟨hI, hE, xu_3I, wu_3⟩ := hw
    dsimp only at hI hE xu_3I wu_3
    have hP : va_P G vwCl (WC cy L K R I3 J3 E3 B3) H := hP1
    have hD : va_D A (WC cy L K R I3 J3 E3 B3) := hD1.weaken (fun _ _ _ h => hFc _ h)
    clear hFc hk1 hz1 hP1 hD1
    replace hC_0 := FI.tr hC_0 xu_3I (by decide)
    replace wu_3 : ((I3 this 4).toInt ≠ 16 ∨ 0 ≤ (I3 this 6).toInt) := by
      have h9 : ((I3 this 4).toInt ≠ 16 ∨ 0 ≤ (I3 this 6).toInt) := wu_3
      exact h9
    refine lv_iconst (v := 1) hx hb dX6_take_17 (by decide) ?_
    refine W.widen (k := 0) (n := 0) (Nat.le_of_ble_eq_true rfl) (Nat.le_of_ble_eq_true rfl) ?_
    exact W.zret (v := 1) hx hb hr rfl (fun t ht9 hW => ⟨⟨1, (I3, J3, E3, B3), rfl, ⟨hI, hE, hC_0, (by omega)⟩, ⟨by rw [ht9]; exact hP, hD⟩⟩, hS.F ht9⟩) hS.2.2 dX6_take_18
  · have q_4 : ¬ (I this 4).toInt = n.toInt := by have := (not_congr (ow_eq _ _)).mp c_1; omega
    refine lv_aload_n hx hb dX6_take_8 rfl (lv_at hl 0 rfl) ?_
    have hFc := fr_free hD hS hA
    refine va_calli (va_runV (As := []) (rest := []) ⟨hx, hb, hml, hown, ht⟩ (r_refuse l G cy _ L K R T I E J B this hRT hI hE hthis.1 hthis.2) (cwV 0 ht (gv k_663 k_664 k_665 k_633 k_662) rfl rfl rfl (by decide +kernel) ⟨Nat.le_of_ble_eq_true rfl, Nat.le_of_ble_eq_true rfl⟩) ⟨En.blind, cr_12 hK hP hthis.1 hthis.2, fun U hU hW => ⟨rfl, En.of hU hW hP hK hD hN⟩⟩ rfl rfl hl.1 rfl (lv_room (Nat.le_of_ble_eq_true rfl)) dX6_take_9 ⟨Nat.le_of_ble_eq_true rfl, Nat.le_of_ble_eq_true rfl⟩) hS (fun q _ h => hFc q h) hFc (fun r_u_5 u_5 t9 H locs ht9 hvm hw hB hz1 hk1 hS => ?_)
    obtain ⟨I5, J5, E5, B5⟩ := u_5
    obtain ⟨hP1, hD1⟩ := hB
    rw [ht9] at hP1
    clear hI hE
    obtain ⟨hI, hE, xu_5I, wu_5⟩ := hw
    dsimp only at hI hE xu_5I wu_5
    have hP : va_P G vwCl (WC cy L K R I5 J5 E5 B5) H := hP1
    have hD : va_D A (WC cy L K R I5 J5 E5 B5) := hD1.weaken (fun _ _ _ h => hFc _ h)
    clear hFc hk1 hz1 hP1 hD1
    replace hC_0 := FI.tr hC_0 xu_5I (by decide)
    obtain rfl : r_u_5 = 0 := (ow_eq _ _).mpr (by omega)
    refine W.widen (k := 0) (n := 0) (Nat.le_of_ble_eq_true rfl) (Nat.le_of_ble_eq_true rfl) ?_
    exact W.zret (v := 0) hx hb hr rfl (fun t ht9 hW => ⟨⟨0, (I5, J5, E5, B5), rfl, ⟨hI, hE, hC_0, (by omega)⟩, ⟨by rw [ht9]; exact hP, hD⟩⟩, hS.F ht9⟩) hS.2.2 dX6_take_12
set_option maxHeartbeats 4000000 in
set_option maxRecDepth 100000 in
theorem r_takeNumber (l : Launch) (G : va_G) (cy : Nat → ClassId) (sz : Nat) (tq qq wq : Nat) (fo : Option Nat) (L : List Nat) (K : Nat → Nat) (R : Nat → Nat → Nat) (T : Int) (I E : Nat → Nat → Int32) (J B : Nat → Nat → Int64) (this : Nat) (n : Int32) (n2 : Int32) (hRT : RT L K R) (hI : IV T L K I) (hE : EV L K E) (hthis1 : this ∈ L) (hthis2 : K this = 12) : Met l yX6_takeNumber (.code yX6_takeNumber cX6_takeNumber 3 (some .boolean) :: TBg) ({ frames := 7, cells := 0, slots := 0, locals := 448 }) (va_Pc [.ref this, .int n, .int n2] (EnX G cy (WC cy L K R I J E B) sz tq qq wq fo (va_A (WC cy L K R I J E B) sz))) (va_Qi (fun (r : Int32) (u : (Nat → Nat → Int32) × (Nat → Nat → Int64) × (Nat → Nat → Int32) × (Nat → Nat → Int64)) => IV T L K u.1 ∧ EV L K u.2.2.1 ∧ FI [(12, 3), (12, 4), (12, 5), (12, 6), (12, 9), (12, 10)] K I u.1 ∧ ((r.toInt = 0 ∨ r.toInt = 1) ∧ (r.toInt = 0 ∨ (n.toInt ≤ (I this 6).toInt ∧ (I this 6).toInt ≤ n2.toInt ∧ ((u.1 this 4).toInt ≠ 16 ∨ 0 ≤ (u.1 this 6).toInt))))) (fun u t => Ex G (va_A (WC cy L K R I J E B) sz) (WC cy L K R u.1 u.2.1 u.2.2.1 u.2.2.2) t) (va_A (WC cy L K R I J E B) sz)) 0 0 (va_A (WC cy L K R I J E B) sz) := by
  have hthis : this ∈ L ∧ K this = 12 := ⟨hthis1, hthis2⟩
  refine Met.ofW (cc := cX6_takeNumber) (maxL := 3) (ret := (some .boolean)) (by decide) rfl ?_
  intro p e s m args below meth c s₁ B9 hml hv9
  obtain ⟨rfl, ⟨hsz, hP, hK, hD0, hN⟩, hX⟩ := hv9
  have hx := B9.exec
  have hb := B9.bytes
  have hr := B9.returns
  have hts := atoms_spec (ws := .code yX6_takeNumber cX6_takeNumber 3 (some .boolean) :: TBg) B9.pre
  have ht : ∀ w ∈ TBg, w.before _ s = true := fun w h => hts w (List.mem_cons_of_mem _ h)
  have hown : s.vm.findClass RX6 = some m.cls := findClass_of_methodNamed B9.named
  have hlocks := B9.notSynchronized
  subst hsz
  have hD := hD0.self (sz := s.heap.size)
  generalize hAe : va_A (WC cy L K R I J E B) s.heap.size = A at hD hX ⊢
  have hA : ∀ q : Nat, s.heap.size ≤ q → A q := fun q h => by rw [← hAe]; exact Or.inr h
  have hS : va_S A s.heap s.heap [] := va_S.rf
  have hl := lv_entry ([.ref this, .int n, .int n2]) (n := 3) (Nat.le_of_ble_eq_true rfl)
  rw [lg_entry_eq]
  generalize (lg_sl ([.ref this, .int n, .int n2]) ++ List.replicate (3 - (lg_sl ([.ref this, .int n, .int n2])).length) Slot.unset).toArray = ls at hl ⊢
  have hl : lv_has ls 3 [(0, .ref this), (1, .int n), (2, .int n2)] := hl
  have z0 : (0 : Int32).toInt = 0 := by decide
  have z1 : (1 : Int32).toInt = 1 := by decide
  have z2 : (4 : Int32).toInt = 4 := by decide
  have z3 : (16 : Int32).toInt = 16 := by decide
  have hC_0 : FI [(12, 3), (12, 4), (12, 5), (12, 6), (12, 9), (12, 10)] K I I := FI.rf
  refine lv_aload_n hx hb dX6_takeNumber_0 rfl (lv_at hl 0 rfl) ?_
  refine cg_12_4_6 hx hb ht hown hK hN hP hthis.1 hthis.2 dX6_takeNumber_1 ?_
  refine lv_bipush (v := 16) hx hb dX6_takeNumber_4 (by decide) ?_
  refine lv_icmp_eq (tgt := 14) hx hb dX6_takeNumber_6 (by decide) (fun c_1 => ?_) (fun c_1 => ?_)
  · have q_2 : (I this 4).toInt = (16 : Int32).toInt := (ow_eq _ _).mp c_1
    refine lv_aload_n hx hb dX6_takeNumber_14 rfl (lv_at hl 0 rfl) ?_
    refine cg_12_6_6 hx hb ht hown hK hN hP hthis.1 hthis.2 dX6_takeNumber_15 ?_
    refine lv_iload_n hx hb dX6_takeNumber_18 rfl (lv_at hl 1 rfl) ?_
    refine lv_icmp_lt (tgt := 30) hx hb dX6_takeNumber_19 (by decide) (fun c_3 => ?_) (fun c_3 => ?_)
    · have q_4 : (I this 6).toInt < n.toInt := (ow_lt _ _).mp c_3
      refine lv_aload_n hx hb dX6_takeNumber_30 rfl (lv_at hl 0 rfl) ?_
      refine lv_iconst (v := 4) hx hb dX6_takeNumber_31 (by decide) ?_
      have hFc := fr_free hD hS hA
      refine va_calli (va_runV (As := [.int 4]) (rest := []) ⟨hx, hb, hml, hown, ht⟩ (r_fail l G cy _ L K R T I E J B this (4) hRT hI hE hthis.1 hthis.2) (cwV 1 ht (gv k_655 k_656 k_657 k_633 k_654) rfl rfl rfl (by decide +kernel) ⟨Nat.le_of_ble_eq_true rfl, Nat.le_of_ble_eq_true rfl⟩) ⟨En.blind, cr_12 hK hP hthis.1 hthis.2, fun U hU hW => ⟨rfl, En.of hU hW hP hK hD hN⟩⟩ rfl rfl hl.1 rfl (lv_room (Nat.le_of_ble_eq_true rfl)) dX6_takeNumber_32 ⟨Nat.le_of_ble_eq_true rfl, Nat.le_of_ble_eq_true rfl⟩) hS (fun q _ h => hFc q h) hFc (fun r_u_5 u_5 t9 H locs ht9 hvm hw hB hz1 hk1 hS => ?_)
      obtain ⟨I5, J5, E5, B5⟩ := u_5
      obtain ⟨hP1, hD1⟩ := hB
      rw [ht9] at hP1
      clear hI hE
      obtain ⟨hI, hE, xu_5I, wu_5⟩ := hw
      dsimp only at hI hE xu_5I wu_5
      have hP : va_P G vwCl (WC cy L K R I5 J5 E5 B5) H := hP1
      have hD : va_D A (WC cy L K R I5 J5 E5 B5) := hD1.weaken (fun _ _ _ h => hFc _ h)
      clear hFc hk1 hz1 hP1 hD1
      replace hC_0 := FI.tr hC_0 xu_5I (by decide)
      obtain rfl : r_u_5 = 0 := (ow_eq _ _).mpr (by omega)
      refine W.widen (k := 0) (n := 0) (Nat.le_of_ble_eq_true rfl) (Nat.le_of_ble_eq_true rfl) ?_
      exact W.zret (v := 0) hx hb hr rfl (fun t ht9 hW => ⟨⟨0, (I5, J5, E5, B5), rfl, ⟨hI, hE, hC_0, ⟨(by omega), (show (0 : Int32).toInt = 0 ∨ (n.toInt ≤ (I this 6).toInt ∧ (I this 6).toInt ≤ n2.toInt ∧ ((I5 this 4).toInt ≠ 16 ∨ 0 ≤ (I5 this 6).toInt)) from by rw [(show I5 this 4 = (I this 4) from (xu_5I this 4 (by rw [hthis.2]; decide))), (show I5 this 6 = (I this 6) from (xu_5I this 6 (by rw [hthis.2]; decide)))]; try omega)⟩⟩, ⟨by rw [ht9]; exact hP, hD⟩⟩, hS.F ht9⟩) hS.2.2 dX6_takeNumber_35
    · have q_6 : n.toInt ≤ (I this 6).toInt := by have := (not_congr (ow_lt _ _)).mp c_3; omega
      refine lv_aload_n hx hb dX6_takeNumber_22 rfl (lv_at hl 0 rfl) ?_
      refine cg_12_6_6 hx hb ht hown hK hN hP hthis.1 hthis.2 dX6_takeNumber_23 ?_
      refine lv_iload_n hx hb dX6_takeNumber_26 rfl (lv_at hl 2 rfl) ?_
      refine lv_icmp_le (tgt := 36) hx hb dX6_takeNumber_27 (by decide) (fun c_7 => ?_) (fun c_7 => ?_)
      · have q_8 : (I this 6).toInt ≤ n2.toInt := (ow_le _ _).mp c_7
        refine lv_aload_n hx hb dX6_takeNumber_36 rfl (lv_at hl 0 rfl) ?_
        have hFc := fr_free hD hS hA
        refine va_callv (va_runV (As := []) (rest := []) ⟨hx, hb, hml, hown, ht⟩ (r_takeToken l G cy _ tq qq wq fo L K R T I E J B this hRT hI hE hthis.1 hthis.2) (cwV 0 ht (gv k_659 k_660 k_661 k_633 k_658) rfl rfl rfl (by decide +kernel) ⟨Nat.le_of_ble_eq_true rfl, Nat.le_of_ble_eq_true rfl⟩) ⟨EnX.blind, cr_12 hK hP hthis.1 hthis.2, fun U hU hW => ⟨rfl, En.of hU hW hP hK hD hN, XK.of hX hS hFc hU hW⟩⟩ rfl rfl hl.1 rfl (lv_room (Nat.le_of_ble_eq_true rfl)) dX6_takeNumber_37 ⟨Nat.le_of_ble_eq_true rfl, Nat.le_of_ble_eq_true rfl⟩) hS (fun q _ h => hFc q h) hFc (fun u_9 t9 H locs ht9 hvm hw hB hz1 hk1 hS => ?_)
        obtain ⟨I9, J9, E9, B9⟩ := u_9
        obtain ⟨hP1, hD1⟩ := hB
        rw [ht9] at hP1
        clear hI hE
        obtain ⟨hI, hE, xu_9I, wu_9⟩ := hw
        dsimp only at hI hE xu_9I wu_9
        have hP : va_P G vwCl (WC cy L K R I9 J9 E9 B9) H := hP1
        have hD : va_D A (WC cy L K R I9 J9 E9 B9) := hD1.weaken (fun _ _ _ h => hFc _ h)
        clear hFc hk1 hz1 hP1 hD1
        replace hC_0 := FI.tr hC_0 xu_9I (by decide)
        replace wu_9 : ((I9 this 4).toInt ≠ 16 ∨ 0 ≤ (I9 this 6).toInt) := by
          have h9 : ((I9 this 4).toInt ≠ 16 ∨ 0 ≤ (I9 this 6).toInt) := wu_9
          exact h9
        refine lv_iconst (v := 1) hx hb dX6_takeNumber_40 (by decide) ?_
        refine W.widen (k := 0) (n := 0) (Nat.le_of_ble_eq_true rfl) (Nat.le_of_ble_eq_true rfl) ?_
        exact W.zret (v := 1) hx hb hr rfl (fun t ht9 hW => ⟨⟨1, (I9, J9, E9, B9), rfl, ⟨hI, hE, hC_0, ⟨(by omega), (show (1 : Int32).toInt = 0 ∨ (n.toInt ≤ (I this 6).toInt ∧ (I this 6).toInt ≤ n2.toInt ∧ ((I9 this 4).toInt ≠ 16 ∨ 0 ≤ (I9 this 6).toInt)) from by omega)⟩⟩, ⟨by rw [ht9]; exact hP, hD⟩⟩, hS.F ht9⟩) hS.2.2 dX6_takeNumber_41
      · have q_10 : n2.toInt < (I this 6).toInt := by have := (not_congr (ow_le _ _)).mp c_7; omega
        refine lv_aload_n hx hb dX6_takeNumber_30 rfl (lv_at hl 0 rfl) ?_
        refine lv_iconst (v := 4) hx hb dX6_takeNumber_31 (by decide) ?_
        have hFc := fr_free hD hS hA
        refine va_calli (va_runV (As := [.int 4]) (rest := []) ⟨hx, hb, hml, hown, ht⟩ (r_fail l G cy _ L K R T I E J B this (4) hRT hI hE hthis.1 hthis.2) (cwV 1 ht (gv k_655 k_656 k_657 k_633 k_654) rfl rfl rfl (by decide +kernel) ⟨Nat.le_of_ble_eq_true rfl, Nat.le_of_ble_eq_true rfl⟩) ⟨En.blind, cr_12 hK hP hthis.1 hthis.2, fun U hU hW => ⟨rfl, En.of hU hW hP hK hD hN⟩⟩ rfl rfl hl.1 rfl (lv_room (Nat.le_of_ble_eq_true rfl)) dX6_takeNumber_32 ⟨Nat.le_of_ble_eq_true rfl, Nat.le_of_ble_eq_true rfl⟩) hS (fun q _ h => hFc q h) hFc (fun r_u_11 u_11 t9 H locs ht9 hvm hw hB hz1 hk1 hS => ?_)
        obtain ⟨I11, J11, E11, B11⟩ := u_11
        obtain ⟨hP1, hD1⟩ := hB
        rw [ht9] at hP1
        clear hI hE
        obtain ⟨hI, hE, xu_11I, wu_11⟩ := hw
        dsimp only at hI hE xu_11I wu_11
        have hP : va_P G vwCl (WC cy L K R I11 J11 E11 B11) H := hP1
        have hD : va_D A (WC cy L K R I11 J11 E11 B11) := hD1.weaken (fun _ _ _ h => hFc _ h)
        clear hFc hk1 hz1 hP1 hD1
        replace hC_0 := FI.tr hC_0 xu_11I (by decide)
        obtain rfl : r_u_11 = 0 := (ow_eq _ _).mpr (by omega)
        refine W.widen (k := 0) (n := 0) (Nat.le_of_ble_eq_true rfl) (Nat.le_of_ble_eq_true rfl) ?_
        exact W.zret (v := 0) hx hb hr rfl (fun t ht9 hW => ⟨⟨0, (I11, J11, E11, B11), rfl, ⟨hI, hE, hC_0, ⟨(by omega), (show (0 : Int32).toInt = 0 ∨ (n.toInt ≤ (I this 6).toInt ∧ (I this 6).toInt ≤ n2.toInt ∧ ((I11 this 4).toInt ≠ 16 ∨ 0 ≤ (I11 this 6).toInt)) from by rw [(show I11 this 4 = (I this 4) from (xu_11I this 4 (by rw [hthis.2]; decide))), (show I11 this 6 = (I this 6) from (xu_11I this 6 (by rw [hthis.2]; decide)))]; try omega)⟩⟩, ⟨by rw [ht9]; exact hP, hD⟩⟩, hS.F ht9⟩) hS.2.2 dX6_takeNumber_35
  · have q_12 : ¬ (I this 4).toInt = (16 : Int32).toInt := by have := (not_congr (ow_eq _ _)).mp c_1; omega
    refine lv_aload_n hx hb dX6_takeNumber_9 rfl (lv_at hl 0 rfl) ?_
    have hFc := fr_free hD hS hA
    refine va_calli (va_runV (As := []) (rest := []) ⟨hx, hb, hml, hown, ht⟩ (r_refuse l G cy _ L K R T I E J B this hRT hI hE hthis.1 hthis.2) (cwV 0 ht (gv k_663 k_664 k_665 k_633 k_662) rfl rfl rfl (by decide +kernel) ⟨Nat.le_of_ble_eq_true rfl, Nat.le_of_ble_eq_true rfl⟩) ⟨En.blind, cr_12 hK hP hthis.1 hthis.2, fun U hU hW => ⟨rfl, En.of hU hW hP hK hD hN⟩⟩ rfl rfl hl.1 rfl (lv_room (Nat.le_of_ble_eq_true rfl)) dX6_takeNumber_10 ⟨Nat.le_of_ble_eq_true rfl, Nat.le_of_ble_eq_true rfl⟩) hS (fun q _ h => hFc q h) hFc (fun r_u_13 u_13 t9 H locs ht9 hvm hw hB hz1 hk1 hS => ?_)
    obtain ⟨I13, J13, E13, B13⟩ := u_13
    obtain ⟨hP1, hD1⟩ := hB
    rw [ht9] at hP1
    clear hI hE
    obtain ⟨hI, hE, xu_13I, wu_13⟩ := hw
    dsimp only at hI hE xu_13I wu_13
    have hP : va_P G vwCl (WC cy L K R I13 J13 E13 B13) H := hP1
    have hD : va_D A (WC cy L K R I13 J13 E13 B13) := hD1.weaken (fun _ _ _ h => hFc _ h)
    clear hFc hk1 hz1 hP1 hD1
    replace hC_0 := FI.tr hC_0 xu_13I (by decide)
    obtain rfl : r_u_13 = 0 := (ow_eq _ _).mpr (by omega)
    refine W.widen (k := 0) (n := 0) (Nat.le_of_ble_eq_true rfl) (Nat.le_of_ble_eq_true rfl) ?_
    exact W.zret (v := 0) hx hb hr rfl (fun t ht9 hW => ⟨⟨0, (I13, J13, E13, B13), rfl, ⟨hI, hE, hC_0, ⟨(by omega), (show (0 : Int32).toInt = 0 ∨ (n.toInt ≤ (I this 6).toInt ∧ (I this 6).toInt ≤ n2.toInt ∧ ((I13 this 4).toInt ≠ 16 ∨ 0 ≤ (I13 this 6).toInt)) from by rw [(show I13 this 4 = (I this 4) from (xu_13I this 4 (by rw [hthis.2]; decide))), (show I13 this 6 = (I this 6) from (xu_13I this 6 (by rw [hthis.2]; decide)))]; try omega)⟩⟩, ⟨by rw [ht9]; exact hP, hD⟩⟩, hS.F ht9⟩) hS.2.2 dX6_takeNumber_13
set_option maxHeartbeats 4000000 in
set_option maxRecDepth 100000 in
theorem r_readNotes (l : Launch) (G : va_G) (cy : Nat → ClassId) (sz : Nat) (tq qq wq : Nat) (fo : Option Nat) (L : List Nat) (K : Nat → Nat) (R : Nat → Nat → Nat) (T : Int) (I E : Nat → Nat → Int32) (J B : Nat → Nat → Int64) (this : Nat) (tune : Nat) (hRT : RT L K R) (hI : IV T L K I) (hE : EV L K E) (hthis1 : this ∈ L) (hthis2 : K this = 12) (h_tune1 : tune ∈ L) (h_tune2 : K tune = 2) : Met l yX6_readNotes (.code yX6_readNotes cX6_readNotes 5 (some .boolean) :: TBg) ({ frames := 8, cells := 0, slots := 0, locals := 512 }) (va_Pc [.ref this, .ref tune] (EnX G cy (WC cy L K R I J E B) sz tq qq wq fo (va_A (WC cy L K R I J E B) sz))) (va_Qi (fun (r : Int32) (u : (Nat → Nat → Int32) × (Nat → Nat → Int64) × (Nat → Nat → Int32) × (Nat → Nat → Int64)) => IV T L K u.1 ∧ EV L K u.2.2.1 ∧ FI [(2, 2), (12, 3), (12, 4), (12, 5), (12, 6), (12, 9), (12, 10)] K I u.1 ∧ ((r.toInt = 0 ∨ r.toInt = 1))) (fun u t => Ex G (va_A (WC cy L K R I J E B) sz) (WC cy L K R u.1 u.2.1 u.2.2.1 u.2.2.2) t) (va_A (WC cy L K R I J E B) sz)) 0 0 (va_A (WC cy L K R I J E B) sz) := by
  have hthis : this ∈ L ∧ K this = 12 := ⟨hthis1, hthis2⟩
  have h_tune : tune ∈ L ∧ K tune = 2 := ⟨h_tune1, h_tune2⟩
  refine Met.ofW (cc := cX6_readNotes) (maxL := 5) (ret := (some .boolean)) (by decide) rfl ?_
  intro p e s m args below meth c s₁ B9 hml hv9
  obtain ⟨rfl, ⟨hsz, hP, hK, hD0, hN⟩, hX⟩ := hv9
  have hx := B9.exec
  have hb := B9.bytes
  have hr := B9.returns
  have hts := atoms_spec (ws := .code yX6_readNotes cX6_readNotes 5 (some .boolean) :: TBg) B9.pre
  have ht : ∀ w ∈ TBg, w.before _ s = true := fun w h => hts w (List.mem_cons_of_mem _ h)
  have hown : s.vm.findClass RX6 = some m.cls := findClass_of_methodNamed B9.named
  have hlocks := B9.notSynchronized
  subst hsz
  have hD := hD0.self (sz := s.heap.size)
  generalize hAe : va_A (WC cy L K R I J E B) s.heap.size = A at hD hX ⊢
  have hA : ∀ q : Nat, s.heap.size ≤ q → A q := fun q h => by rw [← hAe]; exact Or.inr h
  have hS : va_S A s.heap s.heap [] := va_S.rf
  have hl := lv_entry ([.ref this, .ref tune]) (n := 5) (Nat.le_of_ble_eq_true rfl)
  rw [lg_entry_eq]
  generalize (lg_sl ([.ref this, .ref tune]) ++ List.replicate (5 - (lg_sl ([.ref this, .ref tune])).length) Slot.unset).toArray = ls at hl ⊢
  have hl : lv_has ls 5 [(0, .ref this), (1, .ref tune)] := hl
  have z0 : (0 : Int32).toInt = 0 := by decide
  have z1 : (1 : Int32).toInt = 1 := by decide
  have z2 : (9 : Int32).toInt = 9 := by decide
  have z3 : (12 : Int32).toInt = 12 := by decide
  have z4 : (16 : Int32).toInt = 16 := by decide
  have z5 : (60 : Int32).toInt = 60 := by decide
  have hC_0 : FI [(2, 2), (12, 3), (12, 4), (12, 5), (12, 6), (12, 9), (12, 10)] K I I := FI.rf
  refine lv_aload_n hx hb dX6_readNotes_0 rfl (lv_at hl 1 rfl) ?_
  refine lv_iconst (v := 0) hx hb dX6_readNotes_1 (by decide) ?_
  refine cp_2_2_6 hx hb ht hown hK hN hP hD hS h_tune.1 h_tune.2 dX6_readNotes_2 (fun H locs hP hD hS => ?_)
  replace hI := IV.up hI h_tune.2 2 (show 0 ≤ (0 : Int32).toInt ∧ (0 : Int32).toInt ≤ 12 from by omega)
  have f_1 : FI [(2, 2)] K I (va_up I tune (va_up (I tune) 2 0)) := FI.up h_tune.2 2 (0 : Int32)
  have e_2 : (va_up I tune (va_up (I tune) 2 0)) tune 2 = 0 := FI.at I tune 2 (0 : Int32)
  replace hC_0 := FI.tr hC_0 f_1 (by decide)
  generalize (va_up I tune (va_up (I tune) 2 0)) = I_3 at hP hD hI f_1 e_2 hC_0
  refine lv_iconst (v := 0) hx hb dX6_readNotes_5 (by decide) ?_
  refine lv_istore_n (lv' := [(2, .int 0), (0, .ref this), (1, .ref tune)]) hx hb dX6_readNotes_6 rfl hl (by decide) rfl (fun ls hl => ?_)
  refine W.widen (k := 0) (n := 0) (Nat.le_of_ble_eq_true rfl) (Nat.le_of_ble_eq_true rfl) ?_
  have lp_4 : ∀ (N_4 : Nat) (x2_4 : Int32) (I4 : Nat → Nat → Int32) (J4 : Nat → Nat → Int64) (E4 : Nat → Nat → Int32) (B4 : Nat → Nat → Int64) (H : Heap) (locs : List Loc) (ls : Array Slot), IV T L K I4 → EV L K E4 → FI [(2, 2), (12, 3), (12, 4), (12, 5), (12, 6), (12, 9), (12, 10)] K I_3 I4 → (0 ≤ x2_4.toInt ∧ x2_4.toInt ≤ 12) → (12 - x2_4.toInt).toNat < N_4 → va_P G vwCl (WC cy L K R I4 J4 E4 B4) H → va_D A (WC cy L K R I4 J4 E4 B4) → va_S A s.heap H locs → lv_has ls 5 [(2, .int x2_4), (0, .ref this), (1, .ref tune)] → W p l e (headSpec (.code yX6_readNotes cX6_readNotes 5 (some .boolean) :: TBg) ({ frames := 8, cells := 0, slots := 0, locals := 512 })).room s m ([.ref this, .ref tune] : List Value).toArray below meth c H locs 0 0 (MQ below (va_Qi (fun (r : Int32) (u : (Nat → Nat → Int32) × (Nat → Nat → Int64) × (Nat → Nat → Int32) × (Nat → Nat → Int64)) => IV T L K u.1 ∧ EV L K u.2.2.1 ∧ FI [(2, 2), (12, 3), (12, 4), (12, 5), (12, 6), (12, 9), (12, 10)] K I u.1 ∧ ((r.toInt = 0 ∨ r.toInt = 1))) (fun u t => Ex G A (WC cy L K R u.1 u.2.1 u.2.2.1 u.2.2.2) t) A) ([.ref this, .ref tune] : List Value).toArray s 0 0 A) (F0 m 7 ls []) := by
    intro N_4
    induction N_4 with
    | zero => intro x2_4 I4 J4 E4 B4 H locs ls hI hE hC_4 qf4_0 hm9 hP hD hS hl; exact absurd hm9 (Nat.not_lt_zero _)
    | succ N_4 ih_4 =>
      intro x2_4 I4 J4 E4 B4 H locs ls hI hE hC_4 qf4_0 hm9 hP hD hS hl
      replace hC_0 := FI.tr hC_0 hC_4 (by decide)
      have hX_4 := hC_4
      refine lv_iload_n hx hb dX6_readNotes_7 rfl (lv_at hl 0 rfl) ?_
      refine lv_bipush (v := 12) hx hb dX6_readNotes_8 (by decide) ?_
      refine lv_icmp_ge (tgt := 74) hx hb dX6_readNotes_10 (by decide) (fun c_5 => ?_) (fun c_5 => ?_)
      · have q_6 : (12 : Int32).toInt ≤ x2_4.toInt := (ow_le _ _).mp c_5
        refine lv_iconst (v := 1) hx hb dX6_readNotes_74 (by decide) ?_
        refine W.widen (k := 0) (n := 0) (Nat.le_of_ble_eq_true rfl) (Nat.le_of_ble_eq_true rfl) ?_
        exact W.zret (v := 1) hx hb hr rfl (fun t ht9 hW => ⟨⟨1, (I4, J4, E4, B4), rfl, ⟨hI, hE, hC_0, (by omega)⟩, ⟨by rw [ht9]; exact hP, hD⟩⟩, hS.F ht9⟩) hS.2.2 dX6_readNotes_75
      · have q_7 : x2_4.toInt < (12 : Int32).toInt := by have := (not_congr (ow_le _ _)).mp c_5; omega
        refine lv_iload_n hx hb dX6_readNotes_13 rfl (lv_at hl 0 rfl) ?_
        refine lv_if_eq (tgt := 26) hx hb dX6_readNotes_14 (by decide) (fun c_8 => ?_) (fun c_8 => ?_)
        · have q_9 : x2_4.toInt = (0 : Int32).toInt := (ow_eq _ _).mp c_8
          refine lv_aload_n hx hb dX6_readNotes_26 rfl (lv_at hl 1 rfl) ?_
          refine cg_12_6_6 hx hb ht hown hK hN hP hthis.1 hthis.2 dX6_readNotes_27 ?_
          refine lv_istore_n (lv' := [(3, .int (I4 this 6)), (2, .int x2_4), (0, .ref this), (1, .ref tune)]) hx hb dX6_readNotes_30 rfl hl (by decide) rfl (fun ls hl => ?_)
          refine lv_aload_n hx hb dX6_readNotes_31 rfl (lv_at hl 2 rfl) ?_
          refine lv_iconst (v := 0) hx hb dX6_readNotes_32 (by decide) ?_
          refine lv_bipush (v := 60) hx hb dX6_readNotes_33 (by decide) ?_
          have hFc := fr_free hD hS hA
          refine va_calli (va_runV (As := [.int 0, .int 60]) (rest := []) ⟨hx, hb, hml, hown, ht⟩ (r_takeNumber l G cy _ tq qq wq fo L K R T I4 E4 J4 B4 this (0) (60) hRT hI hE hthis.1 hthis.2) (cwV 2 ht (gv k_667 k_668 k_669 k_633 k_666) rfl rfl rfl (by decide +kernel) ⟨Nat.le_of_ble_eq_true rfl, Nat.le_of_ble_eq_true rfl⟩) ⟨EnX.blind, cr_12 hK hP hthis.1 hthis.2, fun U hU hW => ⟨rfl, En.of hU hW hP hK hD hN, XK.of hX hS hFc hU hW⟩⟩ rfl rfl hl.1 rfl (lv_room (Nat.le_of_ble_eq_true rfl)) dX6_readNotes_35 ⟨Nat.le_of_ble_eq_true rfl, Nat.le_of_ble_eq_true rfl⟩) hS (fun q _ h => hFc q h) hFc (fun r_u_10 u_10 t9 H locs ht9 hvm hw hB hz1 hk1 hS => ?_)
          obtain ⟨I10, J10, E10, B10⟩ := u_10
          obtain ⟨hP1, hD1⟩ := hB
          rw [ht9] at hP1
          clear hI hE
          obtain ⟨hI, hE, xu_10I, wu_10⟩ := hw
          dsimp only at hI hE xu_10I wu_10
          have hP : va_P G vwCl (WC cy L K R I10 J10 E10 B10) H := hP1
          have hD : va_D A (WC cy L K R I10 J10 E10 B10) := hD1.weaken (fun _ _ _ h => hFc _ h)
          clear hFc hk1 hz1 hP1 hD1
          replace hC_0 := FI.tr hC_0 xu_10I (by decide)
          replace hX_4 := FI.tr hX_4 xu_10I (by decide)
          replace wu_10 : (r_u_10.toInt = 0 ∨ r_u_10.toInt = 1) ∧ (r_u_10.toInt = 0 ∨ ((0 : Int32).toInt ≤ (I4 this 6).toInt ∧ (I4 this 6).toInt ≤ (60 : Int32).toInt ∧ ((I10 this 4).toInt ≠ 16 ∨ 0 ≤ (I10 this 6).toInt))) := by
            have h9 : (r_u_10.toInt = 0 ∨ r_u_10.toInt = 1) ∧ (r_u_10.toInt = 0 ∨ ((0 : Int32).toInt ≤ (I4 this 6).toInt ∧ (I4 this 6).toInt ≤ (60 : Int32).toInt ∧ ((I10 this 4).toInt ≠ 16 ∨ 0 ≤ (I10 this 6).toInt))) := wu_10
            exact h9
          refine lv_if_ne (tgt := 43) hx hb dX6_readNotes_38 (by decide) (fun c_11 => ?_) (fun c_11 => ?_)
          · have q_12 : ¬ r_u_10.toInt = (0 : Int32).toInt := by have := (not_congr (ow_eq _ _)).mp c_11; omega
            refine lv_aload_n hx hb dX6_readNotes_43 rfl (lv_at hl 2 rfl) ?_
            refine cg_12_6_6 hx hb ht hown hK hN hP hthis.1 hthis.2 dX6_readNotes_44 ?_
            refine lv_istore (lv' := [(4, .int (I10 this 6)), (3, .int (I4 this 6)), (2, .int x2_4), (0, .ref this), (1, .ref tune)]) hx hb dX6_readNotes_47 hl (by decide) rfl (fun ls hl => ?_)
            refine lv_aload_n hx hb dX6_readNotes_49 rfl (lv_at hl 3 rfl) ?_
            refine lv_iconst (v := 1) hx hb dX6_readNotes_50 (by decide) ?_
            refine lv_bipush (v := 9) hx hb dX6_readNotes_51 (by decide) ?_
            have hFc := fr_free hD hS hA
            refine va_calli (va_runV (As := [.int 1, .int 9]) (rest := []) ⟨hx, hb, hml, hown, ht⟩ (r_takeNumber l G cy _ tq qq wq fo L K R T I10 E10 J10 B10 this (1) (9) hRT hI hE hthis.1 hthis.2) (cwV 2 ht (gv k_667 k_668 k_669 k_633 k_666) rfl rfl rfl (by decide +kernel) ⟨Nat.le_of_ble_eq_true rfl, Nat.le_of_ble_eq_true rfl⟩) ⟨EnX.blind, cr_12 hK hP hthis.1 hthis.2, fun U hU hW => ⟨rfl, En.of hU hW hP hK hD hN, XK.of hX hS hFc hU hW⟩⟩ rfl rfl hl.1 rfl (lv_room (Nat.le_of_ble_eq_true rfl)) dX6_readNotes_53 ⟨Nat.le_of_ble_eq_true rfl, Nat.le_of_ble_eq_true rfl⟩) hS (fun q _ h => hFc q h) hFc (fun r_u_13 u_13 t9 H locs ht9 hvm hw hB hz1 hk1 hS => ?_)
            obtain ⟨I13, J13, E13, B13⟩ := u_13
            obtain ⟨hP1, hD1⟩ := hB
            rw [ht9] at hP1
            clear hI hE
            obtain ⟨hI, hE, xu_13I, wu_13⟩ := hw
            dsimp only at hI hE xu_13I wu_13
            have hP : va_P G vwCl (WC cy L K R I13 J13 E13 B13) H := hP1
            have hD : va_D A (WC cy L K R I13 J13 E13 B13) := hD1.weaken (fun _ _ _ h => hFc _ h)
            clear hFc hk1 hz1 hP1 hD1
            replace hC_0 := FI.tr hC_0 xu_13I (by decide)
            replace hX_4 := FI.tr hX_4 xu_13I (by decide)
            replace wu_13 : (r_u_13.toInt = 0 ∨ r_u_13.toInt = 1) ∧ (r_u_13.toInt = 0 ∨ ((1 : Int32).toInt ≤ (I10 this 6).toInt ∧ (I10 this 6).toInt ≤ (9 : Int32).toInt ∧ ((I13 this 4).toInt ≠ 16 ∨ 0 ≤ (I13 this 6).toInt))) := by
              have h9 : (r_u_13.toInt = 0 ∨ r_u_13.toInt = 1) ∧ (r_u_13.toInt = 0 ∨ ((1 : Int32).toInt ≤ (I10 this 6).toInt ∧ (I10 this 6).toInt ≤ (9 : Int32).toInt ∧ ((I13 this 4).toInt ≠ 16 ∨ 0 ≤ (I13 this 6).toInt))) := wu_13
              exact h9
            refine lv_if_ne (tgt := 61) hx hb dX6_readNotes_56 (by decide) (fun c_14 => ?_) (fun c_14 => ?_)
            · have q_15 : ¬ r_u_13.toInt = (0 : Int32).toInt := by have := (not_congr (ow_eq _ _)).mp c_14; omega
              refine lv_aload_n hx hb dX6_readNotes_61 rfl (lv_at hl 4 rfl) ?_
              refine lv_iload_n hx hb dX6_readNotes_62 rfl (lv_at hl 1 rfl) ?_
              refine lv_iload hx hb dX6_readNotes_63 (lv_at hl 0 rfl) ?_
              have hFc := fr_free hD hS hA
              refine va_callv (va_runV (As := [.int (I4 this 6), .int (I10 this 6)]) (rest := []) ⟨hx, hb, hml, hown, ht⟩ (c_add2 l G cy _ L K R T I13 E13 J13 B13 tune (I4 this 6) (I10 this 6) hRT hI hE h_tune.1 h_tune.2) (cwV 2 ht (gv k_670 k_421 k_422 k_399 k_419) rfl rfl rfl (by decide +kernel) ⟨Nat.le_of_ble_eq_true rfl, Nat.le_of_ble_eq_true rfl⟩) ⟨En.blind, cr_2 hK hP h_tune.1 h_tune.2, fun U hU hW => ⟨rfl, En.of hU hW hP hK hD hN⟩⟩ rfl rfl hl.1 rfl (lv_room (Nat.le_of_ble_eq_true rfl)) dX6_readNotes_65 ⟨Nat.le_of_ble_eq_true rfl, Nat.le_of_ble_eq_true rfl⟩) hS (fun q _ h => hFc q h) hFc (fun u_16 t9 H locs ht9 hvm hw hB hz1 hk1 hS => ?_)
              obtain ⟨I16, J16, E16, B16⟩ := u_16
              obtain ⟨hP1, hD1⟩ := hB
              rw [ht9] at hP1
              clear hI hE
              obtain ⟨hI, hE, xu_16I, wu_16⟩ := hw
              dsimp only at hI hE xu_16I wu_16
              have hP : va_P G vwCl (WC cy L K R I16 J16 E16 B16) H := hP1
              have hD : va_D A (WC cy L K R I16 J16 E16 B16) := hD1.weaken (fun _ _ _ h => hFc _ h)
              clear hFc hk1 hz1 hP1 hD1
              replace hC_0 := FI.tr hC_0 xu_16I (by decide)
              replace hX_4 := FI.tr hX_4 xu_16I (by decide)
              obtain ⟨v_17, ev_17⟩ : ∃ y : Int32, y = x2_4 + 1 := ⟨_, rfl⟩
              refine lv_iinc (v := v_17) (lv' := [(2, .int v_17), (4, .int (I10 this 6)), (3, .int (I4 this 6)), (0, .ref this), (1, .ref tune)]) hx hb dX6_readNotes_68 hl (k := 2) rfl (by rw [ev_17]; rfl) (by decide) rfl (fun ls hl => ?_)
              have q_18 : v_17.toInt = x2_4.toInt + 1 := by have := ow_add ev_17 (by omega) (by omega); omega
              refine lv_goto (tgt := 7) hx hb dX6_readNotes_71 (by decide) ?_
              refine W.widen (k := 0) (n := 0) (Nat.le_of_ble_eq_true rfl) (Nat.le_of_ble_eq_true rfl) ?_
              exact ih_4 v_17 I16 J16 E16 B16 _ _ _ hI hE hX_4 (by omega) (by omega) hP hD hS (lv_sub hl [0, 3, 4] rfl)
            · have q_19 : r_u_13.toInt = (0 : Int32).toInt := (ow_eq _ _).mp c_14
              refine lv_iconst (v := 0) hx hb dX6_readNotes_59 (by decide) ?_
              refine W.widen (k := 0) (n := 0) (Nat.le_of_ble_eq_true rfl) (Nat.le_of_ble_eq_true rfl) ?_
              exact W.zret (v := 0) hx hb hr rfl (fun t ht9 hW => ⟨⟨0, (I13, J13, E13, B13), rfl, ⟨hI, hE, hC_0, (by omega)⟩, ⟨by rw [ht9]; exact hP, hD⟩⟩, hS.F ht9⟩) hS.2.2 dX6_readNotes_60
          · have q_20 : r_u_10.toInt = (0 : Int32).toInt := (ow_eq _ _).mp c_11
            refine lv_iconst (v := 0) hx hb dX6_readNotes_41 (by decide) ?_
            refine W.widen (k := 0) (n := 0) (Nat.le_of_ble_eq_true rfl) (Nat.le_of_ble_eq_true rfl) ?_
            exact W.zret (v := 0) hx hb hr rfl (fun t ht9 hW => ⟨⟨0, (I10, J10, E10, B10), rfl, ⟨hI, hE, hC_0, (by omega)⟩, ⟨by rw [ht9]; exact hP, hD⟩⟩, hS.F ht9⟩) hS.2.2 dX6_readNotes_42
        · have q_21 : ¬ x2_4.toInt = (0 : Int32).toInt := by have := (not_congr (ow_eq _ _)).mp c_8; omega
          refine lv_aload_n hx hb dX6_readNotes_17 rfl (lv_at hl 1 rfl) ?_
          refine cg_12_4_6 hx hb ht hown hK hN hP hthis.1 hthis.2 dX6_readNotes_18 ?_
          refine lv_bipush (v := 16) hx hb dX6_readNotes_21 (by decide) ?_
          refine lv_icmp_ne (tgt := 74) hx hb dX6_readNotes_23 (by decide) (fun c_22 => ?_) (fun c_22 => ?_)
          · have q_23 : ¬ (I4 this 4).toInt = (16 : Int32).toInt := by have := (not_congr (ow_eq _ _)).mp c_22; omega
            refine lv_iconst (v := 1) hx hb dX6_readNotes_74 (by decide) ?_
            refine W.widen (k := 0) (n := 0) (Nat.le_of_ble_eq_true rfl) (Nat.le_of_ble_eq_true rfl) ?_
            exact W.zret (v := 1) hx hb hr rfl (fun t ht9 hW => ⟨⟨1, (I4, J4, E4, B4), rfl, ⟨hI, hE, hC_0, (by omega)⟩, ⟨by rw [ht9]; exact hP, hD⟩⟩, hS.F ht9⟩) hS.2.2 dX6_readNotes_75
          · have q_24 : (I4 this 4).toInt = (16 : Int32).toInt := (ow_eq _ _).mp c_22
            refine lv_aload_n hx hb dX6_readNotes_26 rfl (lv_at hl 1 rfl) ?_
            refine cg_12_6_6 hx hb ht hown hK hN hP hthis.1 hthis.2 dX6_readNotes_27 ?_
            refine lv_istore_n (lv' := [(3, .int (I4 this 6)), (2, .int x2_4), (0, .ref this), (1, .ref tune)]) hx hb dX6_readNotes_30 rfl hl (by decide) rfl (fun ls hl => ?_)
            refine lv_aload_n hx hb dX6_readNotes_31 rfl (lv_at hl 2 rfl) ?_
            refine lv_iconst (v := 0) hx hb dX6_readNotes_32 (by decide) ?_
            refine lv_bipush (v := 60) hx hb dX6_readNotes_33 (by decide) ?_
            have hFc := fr_free hD hS hA
            refine va_calli (va_runV (As := [.int 0, .int 60]) (rest := []) ⟨hx, hb, hml, hown, ht⟩ (r_takeNumber l G cy _ tq qq wq fo L K R T I4 E4 J4 B4 this (0) (60) hRT hI hE hthis.1 hthis.2) (cwV 2 ht (gv k_667 k_668 k_669 k_633 k_666) rfl rfl rfl (by decide +kernel) ⟨Nat.le_of_ble_eq_true rfl, Nat.le_of_ble_eq_true rfl⟩) ⟨EnX.blind, cr_12 hK hP hthis.1 hthis.2, fun U hU hW => ⟨rfl, En.of hU hW hP hK hD hN, XK.of hX hS hFc hU hW⟩⟩ rfl rfl hl.1 rfl (lv_room (Nat.le_of_ble_eq_true rfl)) dX6_readNotes_35 ⟨Nat.le_of_ble_eq_true rfl, Nat.le_of_ble_eq_true rfl⟩) hS (fun q _ h => hFc q h) hFc (fun r_u_25 u_25 t9 H locs ht9 hvm hw hB hz1 hk1 hS => ?_)
            obtain ⟨I25, J25, E25, B25⟩ := u_25
            obtain ⟨hP1, hD1⟩ := hB
            rw [ht9] at hP1
            clear hI hE
            obtain ⟨hI, hE, xu_25I, wu_25⟩ := hw
            dsimp only at hI hE xu_25I wu_25
            have hP : va_P G vwCl (WC cy L K R I25 J25 E25 B25) H := hP1
            have hD : va_D A (WC cy L K R I25 J25 E25 B25) := hD1.weaken (fun _ _ _ h => hFc _ h)
            clear hFc hk1 hz1 hP1 hD1
            replace hC_0 := FI.tr hC_0 xu_25I (by decide)
            replace hX_4 := FI.tr hX_4 xu_25I (by decide)
            replace wu_25 : (r_u_25.toInt = 0 ∨ r_u_25.toInt = 1) ∧ (r_u_25.toInt = 0 ∨ ((0 : Int32).toInt ≤ (I4 this 6).toInt ∧ (I4 this 6).toInt ≤ (60 : Int32).toInt ∧ ((I25 this 4).toInt ≠ 16 ∨ 0 ≤ (I25 this 6).toInt))) := by
              have h9 : (r_u_25.toInt = 0 ∨ r_u_25.toInt = 1) ∧ (r_u_25.toInt = 0 ∨ ((0 : Int32).toInt ≤ (I4 this 6).toInt ∧ (I4 this 6).toInt ≤ (60 : Int32).toInt ∧ ((I25 this 4).toInt ≠ 16 ∨ 0 ≤ (I25 this 6).toInt))) := wu_25
              exact h9
            refine lv_if_ne (tgt := 43) hx hb dX6_readNotes_38 (by decide) (fun c_26 => ?_) (fun c_26 => ?_)
            · have q_27 : ¬ r_u_25.toInt = (0 : Int32).toInt := by have := (not_congr (ow_eq _ _)).mp c_26; omega
              refine lv_aload_n hx hb dX6_readNotes_43 rfl (lv_at hl 2 rfl) ?_
              refine cg_12_6_6 hx hb ht hown hK hN hP hthis.1 hthis.2 dX6_readNotes_44 ?_
              refine lv_istore (lv' := [(4, .int (I25 this 6)), (3, .int (I4 this 6)), (2, .int x2_4), (0, .ref this), (1, .ref tune)]) hx hb dX6_readNotes_47 hl (by decide) rfl (fun ls hl => ?_)
              refine lv_aload_n hx hb dX6_readNotes_49 rfl (lv_at hl 3 rfl) ?_
              refine lv_iconst (v := 1) hx hb dX6_readNotes_50 (by decide) ?_
              refine lv_bipush (v := 9) hx hb dX6_readNotes_51 (by decide) ?_
              have hFc := fr_free hD hS hA
              refine va_calli (va_runV (As := [.int 1, .int 9]) (rest := []) ⟨hx, hb, hml, hown, ht⟩ (r_takeNumber l G cy _ tq qq wq fo L K R T I25 E25 J25 B25 this (1) (9) hRT hI hE hthis.1 hthis.2) (cwV 2 ht (gv k_667 k_668 k_669 k_633 k_666) rfl rfl rfl (by decide +kernel) ⟨Nat.le_of_ble_eq_true rfl, Nat.le_of_ble_eq_true rfl⟩) ⟨EnX.blind, cr_12 hK hP hthis.1 hthis.2, fun U hU hW => ⟨rfl, En.of hU hW hP hK hD hN, XK.of hX hS hFc hU hW⟩⟩ rfl rfl hl.1 rfl (lv_room (Nat.le_of_ble_eq_true rfl)) dX6_readNotes_53 ⟨Nat.le_of_ble_eq_true rfl, Nat.le_of_ble_eq_true rfl⟩) hS (fun q _ h => hFc q h) hFc (fun r_u_28 u_28 t9 H locs ht9 hvm hw hB hz1 hk1 hS => ?_)
              obtain ⟨I28, J28, E28, B28⟩ := u_28
              obtain ⟨hP1, hD1⟩ := hB
              rw [ht9] at hP1
              clear hI hE
              obtain ⟨hI, hE, xu_28I, wu_28⟩ := hw
              dsimp only at hI hE xu_28I wu_28
              have hP : va_P G vwCl (WC cy L K R I28 J28 E28 B28) H := hP1
              have hD : va_D A (WC cy L K R I28 J28 E28 B28) := hD1.weaken (fun _ _ _ h => hFc _ h)
              clear hFc hk1 hz1 hP1 hD1
              replace hC_0 := FI.tr hC_0 xu_28I (by decide)
              replace hX_4 := FI.tr hX_4 xu_28I (by decide)
              replace wu_28 : (r_u_28.toInt = 0 ∨ r_u_28.toInt = 1) ∧ (r_u_28.toInt = 0 ∨ ((1 : Int32).toInt ≤ (I25 this 6).toInt ∧ (I25 this 6).toInt ≤ (9 : Int32).toInt ∧ ((I28 this 4).toInt ≠ 16 ∨ 0 ≤ (I28 this 6).toInt))) := by
                have h9 : (r_u_28.toInt = 0 ∨ r_u_28.toInt = 1) ∧ (r_u_28.toInt = 0 ∨ ((1 : Int32).toInt ≤ (I25 this 6).toInt ∧ (I25 this 6).toInt ≤ (9 : Int32).toInt ∧ ((I28 this 4).toInt ≠ 16 ∨ 0 ≤ (I28 this 6).toInt))) := wu_28
                exact h9
              refine lv_if_ne (tgt := 61) hx hb dX6_readNotes_56 (by decide) (fun c_29 => ?_) (fun c_29 => ?_)
              · have q_30 : ¬ r_u_28.toInt = (0 : Int32).toInt := by have := (not_congr (ow_eq _ _)).mp c_29; omega
                refine lv_aload_n hx hb dX6_readNotes_61 rfl (lv_at hl 4 rfl) ?_
                refine lv_iload_n hx hb dX6_readNotes_62 rfl (lv_at hl 1 rfl) ?_
                refine lv_iload hx hb dX6_readNotes_63 (lv_at hl 0 rfl) ?_
                have hFc := fr_free hD hS hA
                refine va_callv (va_runV (As := [.int (I4 this 6), .int (I25 this 6)]) (rest := []) ⟨hx, hb, hml, hown, ht⟩ (c_add2 l G cy _ L K R T I28 E28 J28 B28 tune (I4 this 6) (I25 this 6) hRT hI hE h_tune.1 h_tune.2) (cwV 2 ht (gv k_670 k_421 k_422 k_399 k_419) rfl rfl rfl (by decide +kernel) ⟨Nat.le_of_ble_eq_true rfl, Nat.le_of_ble_eq_true rfl⟩) ⟨En.blind, cr_2 hK hP h_tune.1 h_tune.2, fun U hU hW => ⟨rfl, En.of hU hW hP hK hD hN⟩⟩ rfl rfl hl.1 rfl (lv_room (Nat.le_of_ble_eq_true rfl)) dX6_readNotes_65 ⟨Nat.le_of_ble_eq_true rfl, Nat.le_of_ble_eq_true rfl⟩) hS (fun q _ h => hFc q h) hFc (fun u_31 t9 H locs ht9 hvm hw hB hz1 hk1 hS => ?_)
                obtain ⟨I31, J31, E31, B31⟩ := u_31
                obtain ⟨hP1, hD1⟩ := hB
                rw [ht9] at hP1
                clear hI hE
                obtain ⟨hI, hE, xu_31I, wu_31⟩ := hw
                dsimp only at hI hE xu_31I wu_31
                have hP : va_P G vwCl (WC cy L K R I31 J31 E31 B31) H := hP1
                have hD : va_D A (WC cy L K R I31 J31 E31 B31) := hD1.weaken (fun _ _ _ h => hFc _ h)
                clear hFc hk1 hz1 hP1 hD1
                replace hC_0 := FI.tr hC_0 xu_31I (by decide)
                replace hX_4 := FI.tr hX_4 xu_31I (by decide)
                obtain ⟨v_32, ev_32⟩ : ∃ y : Int32, y = x2_4 + 1 := ⟨_, rfl⟩
                refine lv_iinc (v := v_32) (lv' := [(2, .int v_32), (4, .int (I25 this 6)), (3, .int (I4 this 6)), (0, .ref this), (1, .ref tune)]) hx hb dX6_readNotes_68 hl (k := 2) rfl (by rw [ev_32]; rfl) (by decide) rfl (fun ls hl => ?_)
                have q_33 : v_32.toInt = x2_4.toInt + 1 := by have := ow_add ev_32 (by omega) (by omega); omega
                refine lv_goto (tgt := 7) hx hb dX6_readNotes_71 (by decide) ?_
                refine W.widen (k := 0) (n := 0) (Nat.le_of_ble_eq_true rfl) (Nat.le_of_ble_eq_true rfl) ?_
                exact ih_4 v_32 I31 J31 E31 B31 _ _ _ hI hE hX_4 (by omega) (by omega) hP hD hS (lv_sub hl [0, 3, 4] rfl)
              · have q_34 : r_u_28.toInt = (0 : Int32).toInt := (ow_eq _ _).mp c_29
                refine lv_iconst (v := 0) hx hb dX6_readNotes_59 (by decide) ?_
                refine W.widen (k := 0) (n := 0) (Nat.le_of_ble_eq_true rfl) (Nat.le_of_ble_eq_true rfl) ?_
                exact W.zret (v := 0) hx hb hr rfl (fun t ht9 hW => ⟨⟨0, (I28, J28, E28, B28), rfl, ⟨hI, hE, hC_0, (by omega)⟩, ⟨by rw [ht9]; exact hP, hD⟩⟩, hS.F ht9⟩) hS.2.2 dX6_readNotes_60
            · have q_35 : r_u_25.toInt = (0 : Int32).toInt := (ow_eq _ _).mp c_26
              refine lv_iconst (v := 0) hx hb dX6_readNotes_41 (by decide) ?_
              refine W.widen (k := 0) (n := 0) (Nat.le_of_ble_eq_true rfl) (Nat.le_of_ble_eq_true rfl) ?_
              exact W.zret (v := 0) hx hb hr rfl (fun t ht9 hW => ⟨⟨0, (I25, J25, E25, B25), rfl, ⟨hI, hE, hC_0, (by omega)⟩, ⟨by rw [ht9]; exact hP, hD⟩⟩, hS.F ht9⟩) hS.2.2 dX6_readNotes_42
  exact lp_4 _ (0) I_3 J E B _ _ _ hI hE FI.rf (by omega) (Nat.lt_succ_self _) hP hD hS (lv_sub hl [0, 1, 2] rfl)
set_option maxHeartbeats 4000000 in
set_option maxRecDepth 100000 in
theorem r_begins (l : Launch) (G : va_G) (cy : Nat → ClassId) (sz : Nat) (L : List Nat) (K : Nat → Nat) (R : Nat → Nat → Nat) (T : Int) (I E : Nat → Nat → Int32) (J B : Nat → Nat → Int64) (this : Nat)  (hRT : RT L K R) (hI : IV T L K I) (hE : EV L K E) (hthis1 : this ∈ L) (hthis2 : K this = 12) : Met l yX6_beginsUnit (.code yX6_beginsUnit cX6_beginsUnit 1 (some .boolean) :: TBg) ({ frames := 1, cells := 0, slots := 0, locals := 64 }) (va_Pc [.ref this] (En G cy (WC cy L K R I J E B) sz)) (va_Qi (fun (r : Int32) (_ : Unit) => (r.toInt = 0 ∨ r.toInt = 1)) (fun _ _ => True) (va_A [] sz)) 0 0 (va_A [] sz) := by
  have hthis : this ∈ L ∧ K this = 12 := ⟨hthis1, hthis2⟩
  refine Met.ofW (cc := cX6_beginsUnit) (maxL := 1) (ret := (some .boolean)) (by decide) rfl ?_
  intro p e s m args below meth c s₁ B9 hml hv9
  obtain ⟨rfl, hsz, hP, hK, hD0, hN⟩ := hv9
  have hx := B9.exec
  have hb := B9.bytes
  have hr := B9.returns
  have hts := atoms_spec (ws := .code yX6_beginsUnit cX6_beginsUnit 1 (some .boolean) :: TBg) B9.pre
  have ht : ∀ w ∈ TBg, w.before _ s = true := fun w h => hts w (List.mem_cons_of_mem _ h)
  have hown : s.vm.findClass RX6 = some m.cls := findClass_of_methodNamed B9.named
  have hlocks := B9.notSynchronized
  subst hsz
  generalize hAe : va_A [] s.heap.size = A at ⊢
  have hA : ∀ q : Nat, s.heap.size ≤ q → A q := fun q h => by rw [← hAe]; exact Or.inr h
  have hS : va_S A s.heap s.heap [] := va_S.rf
  have hl := lv_entry ([.ref this]) (n := 1) (Nat.le_of_ble_eq_true rfl)
  rw [lg_entry_eq]
  generalize (lg_sl ([.ref this]) ++ List.replicate (1 - (lg_sl ([.ref this])).length) Slot.unset).toArray = ls at hl ⊢
  have hl : lv_has ls 1 [(0, .ref this)] := hl
  have z0 : (0 : Int32).toInt = 0 := by decide
  have z1 : (1 : Int32).toInt = 1 := by decide
  refine lv_aload_n hx hb dX6_beginsUnit_0 rfl (lv_at hl 0 rfl) ?_
  refine cg_12_4_6 hx hb ht hown hK hN hP hthis.1 hthis.2 dX6_beginsUnit_1 ?_
  by_cases k_1 : (I this 4) = 9
  · refine ow_top 9 k_1 ?_
    refine lv_lookup (off := 76) (tgt := 80) hx hb dX6_beginsUnit_4 (by decide) (by decide +kernel) (by decide) ?_
    refine lv_iconst (v := 1) hx hb dX6_beginsUnit_80 (by decide) ?_
    refine W.widen (k := 0) (n := 0) (Nat.le_of_ble_eq_true rfl) (Nat.le_of_ble_eq_true rfl) ?_
    exact W.zret (v := 1) hx hb hr rfl (fun t ht9 hW => ⟨⟨1, (), rfl, (by omega), trivial⟩, hS.F ht9⟩) hS.2.2 dX6_beginsUnit_81
  by_cases k_2 : (I this 4) = 10
  · refine ow_top 10 k_2 ?_
    refine lv_lookup (off := 76) (tgt := 80) hx hb dX6_beginsUnit_4 (by decide) (by decide +kernel) (by decide) ?_
    refine lv_iconst (v := 1) hx hb dX6_beginsUnit_80 (by decide) ?_
    refine W.widen (k := 0) (n := 0) (Nat.le_of_ble_eq_true rfl) (Nat.le_of_ble_eq_true rfl) ?_
    exact W.zret (v := 1) hx hb hr rfl (fun t ht9 hW => ⟨⟨1, (), rfl, (by omega), trivial⟩, hS.F ht9⟩) hS.2.2 dX6_beginsUnit_81
  by_cases k_3 : (I this 4) = 11
  · refine ow_top 11 k_3 ?_
    refine lv_lookup (off := 76) (tgt := 80) hx hb dX6_beginsUnit_4 (by decide) (by decide +kernel) (by decide) ?_
    refine lv_iconst (v := 1) hx hb dX6_beginsUnit_80 (by decide) ?_
    refine W.widen (k := 0) (n := 0) (Nat.le_of_ble_eq_true rfl) (Nat.le_of_ble_eq_true rfl) ?_
    exact W.zret (v := 1) hx hb hr rfl (fun t ht9 hW => ⟨⟨1, (), rfl, (by omega), trivial⟩, hS.F ht9⟩) hS.2.2 dX6_beginsUnit_81
  by_cases k_4 : (I this 4) = 12
  · refine ow_top 12 k_4 ?_
    refine lv_lookup (off := 76) (tgt := 80) hx hb dX6_beginsUnit_4 (by decide) (by decide +kernel) (by decide) ?_
    refine lv_iconst (v := 1) hx hb dX6_beginsUnit_80 (by decide) ?_
    refine W.widen (k := 0) (n := 0) (Nat.le_of_ble_eq_true rfl) (Nat.le_of_ble_eq_true rfl) ?_
    exact W.zret (v := 1) hx hb hr rfl (fun t ht9 hW => ⟨⟨1, (), rfl, (by omega), trivial⟩, hS.F ht9⟩) hS.2.2 dX6_beginsUnit_81
  by_cases k_5 : (I this 4) = 13
  · refine ow_top 13 k_5 ?_
    refine lv_lookup (off := 76) (tgt := 80) hx hb dX6_beginsUnit_4 (by decide) (by decide +kernel) (by decide) ?_
    refine lv_iconst (v := 1) hx hb dX6_beginsUnit_80 (by decide) ?_
    refine W.widen (k := 0) (n := 0) (Nat.le_of_ble_eq_true rfl) (Nat.le_of_ble_eq_true rfl) ?_
    exact W.zret (v := 1) hx hb hr rfl (fun t ht9 hW => ⟨⟨1, (), rfl, (by omega), trivial⟩, hS.F ht9⟩) hS.2.2 dX6_beginsUnit_81
  by_cases k_6 : (I this 4) = 14
  · refine ow_top 14 k_6 ?_
    refine lv_lookup (off := 76) (tgt := 80) hx hb dX6_beginsUnit_4 (by decide) (by decide +kernel) (by decide) ?_
    refine lv_iconst (v := 1) hx hb dX6_beginsUnit_80 (by decide) ?_
    refine W.widen (k := 0) (n := 0) (Nat.le_of_ble_eq_true rfl) (Nat.le_of_ble_eq_true rfl) ?_
    exact W.zret (v := 1) hx hb hr rfl (fun t ht9 hW => ⟨⟨1, (), rfl, (by omega), trivial⟩, hS.F ht9⟩) hS.2.2 dX6_beginsUnit_81
  by_cases k_7 : (I this 4) = 16
  · refine ow_top 16 k_7 ?_
    refine lv_lookup (off := 76) (tgt := 80) hx hb dX6_beginsUnit_4 (by decide) (by decide +kernel) (by decide) ?_
    refine lv_iconst (v := 1) hx hb dX6_beginsUnit_80 (by decide) ?_
    refine W.widen (k := 0) (n := 0) (Nat.le_of_ble_eq_true rfl) (Nat.le_of_ble_eq_true rfl) ?_
    exact W.zret (v := 1) hx hb hr rfl (fun t ht9 hW => ⟨⟨1, (), rfl, (by omega), trivial⟩, hS.F ht9⟩) hS.2.2 dX6_beginsUnit_81
  by_cases k_8 : (I this 4) = 40
  · refine ow_top 40 k_8 ?_
    refine lv_lookup (off := 76) (tgt := 80) hx hb dX6_beginsUnit_4 (by decide) (by decide +kernel) (by decide) ?_
    refine lv_iconst (v := 1) hx hb dX6_beginsUnit_80 (by decide) ?_
    refine W.widen (k := 0) (n := 0) (Nat.le_of_ble_eq_true rfl) (Nat.le_of_ble_eq_true rfl) ?_
    exact W.zret (v := 1) hx hb hr rfl (fun t ht9 hW => ⟨⟨1, (), rfl, (by omega), trivial⟩, hS.F ht9⟩) hS.2.2 dX6_beginsUnit_81
  refine lv_lookup (off := 78) (tgt := 82) hx hb dX6_beginsUnit_4 (by decide) (by show Op.lookupswitch.offset [(9, 76), (10, 76), (11, 76), (12, 76), (13, 76), (14, 76), (16, 76), (40, 76)] 78 _ = _; rw [lv_osw (a := 9) k_1 (by decide), lv_osw (a := 10) k_2 (by decide), lv_osw (a := 11) k_3 (by decide), lv_osw (a := 12) k_4 (by decide), lv_osw (a := 13) k_5 (by decide), lv_osw (a := 14) k_6 (by decide), lv_osw (a := 16) k_7 (by decide), lv_osw (a := 40) k_8 (by decide)]; rfl) (by decide) ?_
  refine lv_iconst (v := 0) hx hb dX6_beginsUnit_82 (by decide) ?_
  refine W.widen (k := 0) (n := 0) (Nat.le_of_ble_eq_true rfl) (Nat.le_of_ble_eq_true rfl) ?_
  exact W.zret (v := 0) hx hb hr rfl (fun t ht9 hW => ⟨⟨0, (), rfl, (by omega), trivial⟩, hS.F ht9⟩) hS.2.2 dX6_beginsUnit_83
set_option maxHeartbeats 4000000 in
set_option maxRecDepth 100000 in
theorem r_readTune (l : Launch) (G : va_G) (cy : Nat → ClassId) (sz : Nat) (tq qq wq : Nat) (fo : Option Nat) (L : List Nat) (K : Nat → Nat) (R : Nat → Nat → Nat) (T : Int) (I E : Nat → Nat → Int32) (J B : Nat → Nat → Int64) (this : Nat)  (hRT : RT L K R) (hI : IV T L K I) (hE : EV L K E) (hthis1 : this ∈ L) (hthis2 : K this = 12) : Met l yX6_readTune (.code yX6_readTune cX6_readTune 1 (some .boolean) :: TBg) ({ frames := 9, cells := 0, slots := 0, locals := 576 }) (va_Pc [.ref this] (EnX G cy (WC cy L K R I J E B) sz tq qq wq fo (va_A (WC cy L K R I J E B) sz))) (va_Qi (fun (r : Int32) (u : (Nat → Nat → Int32) × (Nat → Nat → Int64) × (Nat → Nat → Int32) × (Nat → Nat → Int64)) => IV T L K u.1 ∧ EV L K u.2.2.1 ∧ FI [(1, 3), (2, 2), (12, 3), (12, 4), (12, 5), (12, 6), (12, 9), (12, 10)] K I u.1 ∧ ((r.toInt = 0 ∨ r.toInt = 1))) (fun u t => Ex G (va_A (WC cy L K R I J E B) sz) (WC cy L K R u.1 u.2.1 u.2.2.1 u.2.2.2) t) (va_A (WC cy L K R I J E B) sz)) 0 0 (va_A (WC cy L K R I J E B) sz) := by
  have hthis : this ∈ L ∧ K this = 12 := ⟨hthis1, hthis2⟩
  refine Met.ofW (cc := cX6_readTune) (maxL := 1) (ret := (some .boolean)) (by decide) rfl ?_
  intro p e s m args below meth c s₁ B9 hml hv9
  obtain ⟨rfl, ⟨hsz, hP, hK, hD0, hN⟩, hX⟩ := hv9
  have hx := B9.exec
  have hb := B9.bytes
  have hr := B9.returns
  have hts := atoms_spec (ws := .code yX6_readTune cX6_readTune 1 (some .boolean) :: TBg) B9.pre
  have ht : ∀ w ∈ TBg, w.before _ s = true := fun w h => hts w (List.mem_cons_of_mem _ h)
  have hown : s.vm.findClass RX6 = some m.cls := findClass_of_methodNamed B9.named
  have hlocks := B9.notSynchronized
  subst hsz
  have hD := hD0.self (sz := s.heap.size)
  generalize hAe : va_A (WC cy L K R I J E B) s.heap.size = A at hD hX ⊢
  have hA : ∀ q : Nat, s.heap.size ≤ q → A q := fun q h => by rw [← hAe]; exact Or.inr h
  have hS : va_S A s.heap s.heap [] := va_S.rf
  have hl := lv_entry ([.ref this]) (n := 1) (Nat.le_of_ble_eq_true rfl)
  rw [lg_entry_eq]
  generalize (lg_sl ([.ref this]) ++ List.replicate (1 - (lg_sl ([.ref this])).length) Slot.unset).toArray = ls at hl ⊢
  have hl : lv_has ls 1 [(0, .ref this)] := hl
  have z0 : (-1 : Int32).toInt = -1 := by decide
  have z1 : (0 : Int32).toInt = 0 := by decide
  have z2 : (1 : Int32).toInt = 1 := by decide
  have z3 : (3 : Int32).toInt = 3 := by decide
  have z4 : (14 : Int32).toInt = 14 := by decide
  have z5 : (15 : Int32).toInt = 15 := by decide
  have z6 : (59 : Int32).toInt = 59 := by decide
  have hC_0 : FI [(1, 3), (2, 2), (12, 3), (12, 4), (12, 5), (12, 6), (12, 9), (12, 10)] K I I := FI.rf
  refine lv_aload_n hx hb dX6_readTune_0 rfl (lv_at hl 0 rfl) ?_
  refine cg_12_2_6 hx hb ht hown hK hN hP hthis.1 hthis.2 dX6_readTune_1 ?_
  have hm_1 : (R this 2) ∈ L ∧ K (R this 2) = 1 := RT.o hRT hthis.1 hthis.2 2 (by decide)
  refine cg_1_3_6 hx hb ht hown hK hN hP hm_1.1 hm_1.2 dX6_readTune_4 ?_
  have q_2 : 0 ≤ (I (R this 2) 3).toInt ∧ (I (R this 2) 3).toInt ≤ 14 := IV.rd hI hm_1.1 hm_1.2 3
  refine lv_bipush (v := 14) hx hb dX6_readTune_7 (by decide) ?_
  refine lv_icmp_lt (tgt := 17) hx hb dX6_readTune_9 (by decide) (fun c_3 => ?_) (fun c_3 => ?_)
  · have q_4 : (I (R this 2) 3).toInt < (14 : Int32).toInt := (ow_lt _ _).mp c_3
    refine lv_aload_n hx hb dX6_readTune_17 rfl (lv_at hl 0 rfl) ?_
    have hFc := fr_free hD hS hA
    refine va_callv (va_runV (As := []) (rest := []) ⟨hx, hb, hml, hown, ht⟩ (r_takeToken l G cy _ tq qq wq fo L K R T I E J B this hRT hI hE hthis.1 hthis.2) (cwV 0 ht (gv k_659 k_660 k_661 k_633 k_658) rfl rfl rfl (by decide +kernel) ⟨Nat.le_of_ble_eq_true rfl, Nat.le_of_ble_eq_true rfl⟩) ⟨EnX.blind, cr_12 hK hP hthis.1 hthis.2, fun U hU hW => ⟨rfl, En.of hU hW hP hK hD hN, XK.of hX hS hFc hU hW⟩⟩ rfl rfl hl.1 rfl (lv_room (Nat.le_of_ble_eq_true rfl)) dX6_readTune_18 ⟨Nat.le_of_ble_eq_true rfl, Nat.le_of_ble_eq_true rfl⟩) hS (fun q _ h => hFc q h) hFc (fun u_5 t9 H locs ht9 hvm hw hB hz1 hk1 hS => ?_)
    obtain ⟨I5, J5, E5, B5⟩ := u_5
    obtain ⟨hP1, hD1⟩ := hB
    rw [ht9] at hP1
    clear hI hE
    obtain ⟨hI, hE, xu_5I, wu_5⟩ := hw
    dsimp only at hI hE xu_5I wu_5
    have hP : va_P G vwCl (WC cy L K R I5 J5 E5 B5) H := hP1
    have hD : va_D A (WC cy L K R I5 J5 E5 B5) := hD1.weaken (fun _ _ _ h => hFc _ h)
    clear hFc hk1 hz1 hP1 hD1
    replace hC_0 := FI.tr hC_0 xu_5I (by decide)
    replace wu_5 : ((I5 this 4).toInt ≠ 16 ∨ 0 ≤ (I5 this 6).toInt) := by
      have h9 : ((I5 this 4).toInt ≠ 16 ∨ 0 ≤ (I5 this 6).toInt) := wu_5
      exact h9
    refine lv_aload_n hx hb dX6_readTune_21 rfl (lv_at hl 0 rfl) ?_
    refine cg_12_4_6 hx hb ht hown hK hN hP hthis.1 hthis.2 dX6_readTune_22 ?_
    refine lv_bipush (v := 15) hx hb dX6_readTune_25 (by decide) ?_
    refine lv_icmp_eq (tgt := 35) hx hb dX6_readTune_27 (by decide) (fun c_6 => ?_) (fun c_6 => ?_)
    · have q_7 : (I5 this 4).toInt = (15 : Int32).toInt := (ow_eq _ _).mp c_6
      refine lv_aload_n hx hb dX6_readTune_35 rfl (lv_at hl 0 rfl) ?_
      refine cg_12_2_6 hx hb ht hown hK hN hP hthis.1 hthis.2 dX6_readTune_36 ?_
      refine lv_aload_n hx hb dX6_readTune_39 rfl (lv_at hl 0 rfl) ?_
      refine cg_12_7_6 hx hb ht hown hK hN hP hthis.1 hthis.2 dX6_readTune_40 ?_
      refine lv_topl (fun v_8 ev_8 => ?_)
      have hFc := fr_new hS hA
      refine va_calli (va_runV (As := [.long v_8]) (rest := []) ⟨hx, hb, hml, hown, ht⟩ (c_tuneNamed l G cy _ L K R T I5 E5 J5 B5 (R this 2) v_8 hRT hI hE hm_1.1 hm_1.2) (cwV 1 ht (gv k_672 k_673 k_674 k_461 k_671) rfl rfl rfl (by decide +kernel) ⟨Nat.le_of_ble_eq_true rfl, Nat.le_of_ble_eq_true rfl⟩) ⟨En.blind, cr_1 hK hP hm_1.1 hm_1.2, fun U hU hW => ⟨rfl, En.of hU hW hP hK hD hN⟩⟩ rfl rfl hl.1 rfl (lv_room (Nat.le_of_ble_eq_true rfl)) dX6_readTune_43 ⟨Nat.le_of_ble_eq_true rfl, Nat.le_of_ble_eq_true rfl⟩) hS (fun q _ h => hFc q h) hFc (fun r_u_9 u_9 t9 H locs ht9 hvm hw hB hz1 hk1 hS => ?_)
      have hP := fr_keep hP hk1
      have wu_9 := hw
      clear hFc hk1 hz1 hB hw
      refine lv_iconst (v := (-1)) hx hb dX6_readTune_46 (by decide) ?_
      refine lv_icmp_eq (tgt := 56) hx hb dX6_readTune_47 (by decide) (fun c_10 => ?_) (fun c_10 => ?_)
      · have q_11 : r_u_9.toInt = ((-1) : Int32).toInt := (ow_eq _ _).mp c_10
        refine lv_aload_n hx hb dX6_readTune_56 rfl (lv_at hl 0 rfl) ?_
        refine cg_12_2_6 hx hb ht hown hK hN hP hthis.1 hthis.2 dX6_readTune_57 ?_
        refine cg_1_1_6 hx hb ht hown hK hN hP hm_1.1 hm_1.2 dX6_readTune_60 ?_
        have hm_12 : (R (R this 2) 1) ∈ L ∧ K (R (R this 2) 1) = 30 := RT.o hRT hm_1.1 hm_1.2 1 (by decide)
        refine lv_aload_n hx hb dX6_readTune_63 rfl (lv_at hl 0 rfl) ?_
        refine cg_12_2_6 hx hb ht hown hK hN hP hthis.1 hthis.2 dX6_readTune_64 ?_
        refine cg_1_3_6 hx hb ht hown hK hN hP hm_1.1 hm_1.2 dX6_readTune_67 ?_
        refine ow_top (I (R this 2) 3) (xu_5I (R this 2) 3 (by rw [hm_1.2]; decide)) ?_
        refine lv_aload_n hx hb dX6_readTune_70 rfl (lv_at hl 0 rfl) ?_
        refine cg_12_7_6 hx hb ht hown hK hN hP hthis.1 hthis.2 dX6_readTune_71 ?_
        refine lv_topl (fun v_13 ev_13 => ?_)
        have q_14 : vp_in (I (R this 2) 3) 14 := vp_in_iff.mpr ⟨by omega, by omega⟩
        refine cs_30 hx hb hK hP hD hS hm_12.1 hm_12.2 q_14 dX6_readTune_74 (fun H locs hP hD hS => ?_)
        generalize (va_up B5 (R (R this 2) 1) (vp_updL (B5 (R (R this 2) 1)) (Int32.toNatClampNeg (I (R this 2) 3)) v_13)) = B_15 at hP hD
        refine lv_aload_n hx hb dX6_readTune_75 rfl (lv_at hl 0 rfl) ?_
        have hFc := fr_free hD hS hA
        refine va_callv (va_runV (As := []) (rest := []) ⟨hx, hb, hml, hown, ht⟩ (r_takeToken l G cy _ tq qq wq fo L K R T I5 E5 J5 B_15 this hRT hI hE hthis.1 hthis.2) (cwV 0 ht (gv k_659 k_660 k_661 k_633 k_658) rfl rfl rfl (by decide +kernel) ⟨Nat.le_of_ble_eq_true rfl, Nat.le_of_ble_eq_true rfl⟩) ⟨EnX.blind, cr_12 hK hP hthis.1 hthis.2, fun U hU hW => ⟨rfl, En.of hU hW hP hK hD hN, XK.of hX hS hFc hU hW⟩⟩ rfl rfl hl.1 rfl (lv_room (Nat.le_of_ble_eq_true rfl)) dX6_readTune_76 ⟨Nat.le_of_ble_eq_true rfl, Nat.le_of_ble_eq_true rfl⟩) hS (fun q _ h => hFc q h) hFc (fun u_16 t9 H locs ht9 hvm hw hB hz1 hk1 hS => ?_)
        obtain ⟨I16, J16, E16, B16⟩ := u_16
        obtain ⟨hP1, hD1⟩ := hB
        rw [ht9] at hP1
        clear hI hE
        obtain ⟨hI, hE, xu_16I, wu_16⟩ := hw
        dsimp only at hI hE xu_16I wu_16
        have hP : va_P G vwCl (WC cy L K R I16 J16 E16 B16) H := hP1
        have hD : va_D A (WC cy L K R I16 J16 E16 B16) := hD1.weaken (fun _ _ _ h => hFc _ h)
        clear hFc hk1 hz1 hP1 hD1
        replace hC_0 := FI.tr hC_0 xu_16I (by decide)
        replace wu_16 : ((I16 this 4).toInt ≠ 16 ∨ 0 ≤ (I16 this 6).toInt) := by
          have h9 : ((I16 this 4).toInt ≠ 16 ∨ 0 ≤ (I16 this 6).toInt) := wu_16
          exact h9
        refine lv_aload_n hx hb dX6_readTune_79 rfl (lv_at hl 0 rfl) ?_
        refine lv_iconst (v := 3) hx hb dX6_readTune_80 (by decide) ?_
        have hFc := fr_free hD hS hA
        refine va_calli (va_runV (As := [.int 3]) (rest := []) ⟨hx, hb, hml, hown, ht⟩ (r_take l G cy _ tq qq wq fo L K R T I16 E16 J16 B16 this (3) hRT hI hE hthis.1 hthis.2) (cwV 1 ht (gv k_676 k_677 k_678 k_633 k_675) rfl rfl rfl (by decide +kernel) ⟨Nat.le_of_ble_eq_true rfl, Nat.le_of_ble_eq_true rfl⟩) ⟨EnX.blind, cr_12 hK hP hthis.1 hthis.2, fun U hU hW => ⟨rfl, En.of hU hW hP hK hD hN, XK.of hX hS hFc hU hW⟩⟩ rfl rfl hl.1 rfl (lv_room (Nat.le_of_ble_eq_true rfl)) dX6_readTune_81 ⟨Nat.le_of_ble_eq_true rfl, Nat.le_of_ble_eq_true rfl⟩) hS (fun q _ h => hFc q h) hFc (fun r_u_17 u_17 t9 H locs ht9 hvm hw hB hz1 hk1 hS => ?_)
        obtain ⟨I17, J17, E17, B17⟩ := u_17
        obtain ⟨hP1, hD1⟩ := hB
        rw [ht9] at hP1
        clear hI hE
        obtain ⟨hI, hE, xu_17I, wu_17⟩ := hw
        dsimp only at hI hE xu_17I wu_17
        have hP : va_P G vwCl (WC cy L K R I17 J17 E17 B17) H := hP1
        have hD : va_D A (WC cy L K R I17 J17 E17 B17) := hD1.weaken (fun _ _ _ h => hFc _ h)
        clear hFc hk1 hz1 hP1 hD1
        replace hC_0 := FI.tr hC_0 xu_17I (by decide)
        refine lv_if_eq (tgt := 118) hx hb dX6_readTune_84 (by decide) (fun c_18 => ?_) (fun c_18 => ?_)
        · have q_19 : r_u_17.toInt = (0 : Int32).toInt := (ow_eq _ _).mp c_18
          refine lv_iconst (v := 0) hx hb dX6_readTune_118 (by decide) ?_
          refine W.widen (k := 0) (n := 0) (Nat.le_of_ble_eq_true rfl) (Nat.le_of_ble_eq_true rfl) ?_
          exact W.zret (v := 0) hx hb hr rfl (fun t ht9 hW => ⟨⟨0, (I17, J17, E17, B17), rfl, ⟨hI, hE, hC_0, (by omega)⟩, ⟨by rw [ht9]; exact hP, hD⟩⟩, hS.F ht9⟩) hS.2.2 dX6_readTune_119
        · have q_20 : ¬ r_u_17.toInt = (0 : Int32).toInt := by have := (not_congr (ow_eq _ _)).mp c_18; omega
          refine lv_aload_n hx hb dX6_readTune_87 rfl (lv_at hl 0 rfl) ?_
          refine lv_aload_n hx hb dX6_readTune_88 rfl (lv_at hl 0 rfl) ?_
          refine cg_12_2_6 hx hb ht hown hK hN hP hthis.1 hthis.2 dX6_readTune_89 ?_
          refine cg_1_0_6 hx hb ht hown hK hN hP hm_1.1 hm_1.2 dX6_readTune_92 ?_
          have hm_21 : (R (R this 2) 0) ∈ L ∧ K (R (R this 2) 0) = 29 := RT.o hRT hm_1.1 hm_1.2 0 (by decide)
          refine lv_aload_n hx hb dX6_readTune_95 rfl (lv_at hl 0 rfl) ?_
          refine cg_12_2_6 hx hb ht hown hK hN hP hthis.1 hthis.2 dX6_readTune_96 ?_
          refine cg_1_3_6 hx hb ht hown hK hN hP hm_1.1 hm_1.2 dX6_readTune_99 ?_
          refine ow_top (I (R this 2) 3) ((xu_17I (R this 2) 3 (by rw [hm_1.2]; decide)).trans ((xu_16I (R this 2) 3 (by rw [hm_1.2]; decide)).trans (xu_5I (R this 2) 3 (by rw [hm_1.2]; decide)))) ?_
          have q_22 : vp_in (I (R this 2) 3) 14 := vp_in_iff.mpr ⟨by omega, by omega⟩
          refine cl_29 hx hb hK hP hm_21.1 hm_21.2 q_22 dX6_readTune_102 ?_
          have hm_23 : (R (R (R this 2) 0) (Int32.toNatClampNeg (I (R this 2) 3))) ∈ L ∧ K (R (R (R this 2) 0) (Int32.toNatClampNeg (I (R this 2) 3))) = 2 := RT.a hRT hm_21.1 hm_21.2 (by decide) q_22
          have hFc := fr_free hD hS hA
          refine va_calli (va_runV (As := [.ref (R (R (R this 2) 0) (Int32.toNatClampNeg (I (R this 2) 3)))]) (rest := []) ⟨hx, hb, hml, hown, ht⟩ (r_readNotes l G cy _ tq qq wq fo L K R T I17 E17 J17 B17 this (R (R (R this 2) 0) (Int32.toNatClampNeg (I (R this 2) 3))) hRT hI hE hthis.1 hthis.2 hm_23.1 hm_23.2) (cwV 1 ht (gv k_680 k_681 k_682 k_633 k_679) rfl rfl rfl (by decide +kernel) ⟨Nat.le_of_ble_eq_true rfl, Nat.le_of_ble_eq_true rfl⟩) ⟨EnX.blind, cr_12 hK hP hthis.1 hthis.2, fun U hU hW => ⟨rfl, En.of hU hW hP hK hD hN, XK.of hX hS hFc hU hW⟩⟩ rfl rfl hl.1 rfl (lv_room (Nat.le_of_ble_eq_true rfl)) dX6_readTune_103 ⟨Nat.le_of_ble_eq_true rfl, Nat.le_of_ble_eq_true rfl⟩) hS (fun q _ h => hFc q h) hFc (fun r_u_24 u_24 t9 H locs ht9 hvm hw hB hz1 hk1 hS => ?_)
          obtain ⟨I24, J24, E24, B24⟩ := u_24
          obtain ⟨hP1, hD1⟩ := hB
          rw [ht9] at hP1
          clear hI hE
          obtain ⟨hI, hE, xu_24I, wu_24⟩ := hw
          dsimp only at hI hE xu_24I wu_24
          have hP : va_P G vwCl (WC cy L K R I24 J24 E24 B24) H := hP1
          have hD : va_D A (WC cy L K R I24 J24 E24 B24) := hD1.weaken (fun _ _ _ h => hFc _ h)
          clear hFc hk1 hz1 hP1 hD1
          replace hC_0 := FI.tr hC_0 xu_24I (by decide)
          refine lv_if_eq (tgt := 118) hx hb dX6_readTune_106 (by decide) (fun c_25 => ?_) (fun c_25 => ?_)
          · have q_26 : r_u_24.toInt = (0 : Int32).toInt := (ow_eq _ _).mp c_25
            refine lv_iconst (v := 0) hx hb dX6_readTune_118 (by decide) ?_
            refine W.widen (k := 0) (n := 0) (Nat.le_of_ble_eq_true rfl) (Nat.le_of_ble_eq_true rfl) ?_
            exact W.zret (v := 0) hx hb hr rfl (fun t ht9 hW => ⟨⟨0, (I24, J24, E24, B24), rfl, ⟨hI, hE, hC_0, (by omega)⟩, ⟨by rw [ht9]; exact hP, hD⟩⟩, hS.F ht9⟩) hS.2.2 dX6_readTune_119
          · have q_27 : ¬ r_u_24.toInt = (0 : Int32).toInt := by have := (not_congr (ow_eq _ _)).mp c_25; omega
            refine lv_aload_n hx hb dX6_readTune_109 rfl (lv_at hl 0 rfl) ?_
            refine lv_bipush (v := 59) hx hb dX6_readTune_110 (by decide) ?_
            have hFc := fr_free hD hS hA
            refine va_calli (va_runV (As := [.int 59]) (rest := []) ⟨hx, hb, hml, hown, ht⟩ (r_take l G cy _ tq qq wq fo L K R T I24 E24 J24 B24 this (59) hRT hI hE hthis.1 hthis.2) (cwV 1 ht (gv k_676 k_677 k_678 k_633 k_675) rfl rfl rfl (by decide +kernel) ⟨Nat.le_of_ble_eq_true rfl, Nat.le_of_ble_eq_true rfl⟩) ⟨EnX.blind, cr_12 hK hP hthis.1 hthis.2, fun U hU hW => ⟨rfl, En.of hU hW hP hK hD hN, XK.of hX hS hFc hU hW⟩⟩ rfl rfl hl.1 rfl (lv_room (Nat.le_of_ble_eq_true rfl)) dX6_readTune_112 ⟨Nat.le_of_ble_eq_true rfl, Nat.le_of_ble_eq_true rfl⟩) hS (fun q _ h => hFc q h) hFc (fun r_u_28 u_28 t9 H locs ht9 hvm hw hB hz1 hk1 hS => ?_)
            obtain ⟨I28, J28, E28, B28⟩ := u_28
            obtain ⟨hP1, hD1⟩ := hB
            rw [ht9] at hP1
            clear hI hE
            obtain ⟨hI, hE, xu_28I, wu_28⟩ := hw
            dsimp only at hI hE xu_28I wu_28
            have hP : va_P G vwCl (WC cy L K R I28 J28 E28 B28) H := hP1
            have hD : va_D A (WC cy L K R I28 J28 E28 B28) := hD1.weaken (fun _ _ _ h => hFc _ h)
            clear hFc hk1 hz1 hP1 hD1
            replace hC_0 := FI.tr hC_0 xu_28I (by decide)
            refine lv_if_ne (tgt := 120) hx hb dX6_readTune_115 (by decide) (fun c_29 => ?_) (fun c_29 => ?_)
            · have q_30 : ¬ r_u_28.toInt = (0 : Int32).toInt := by have := (not_congr (ow_eq _ _)).mp c_29; omega
              refine lv_aload_n hx hb dX6_readTune_120 rfl (lv_at hl 0 rfl) ?_
              refine cg_12_2_6 hx hb ht hown hK hN hP hthis.1 hthis.2 dX6_readTune_121 ?_
              refine lv_dup hx hb dX6_readTune_124 rfl ?_
              refine cg_1_3_6 hx hb ht hown hK hN hP hm_1.1 hm_1.2 dX6_readTune_125 ?_
              refine ow_top (I (R this 2) 3) ((xu_28I (R this 2) 3 (by rw [hm_1.2]; decide)).trans ((xu_24I (R this 2) 3 (by rw [hm_1.2]; decide)).trans ((xu_17I (R this 2) 3 (by rw [hm_1.2]; decide)).trans ((xu_16I (R this 2) 3 (by rw [hm_1.2]; decide)).trans (xu_5I (R this 2) 3 (by rw [hm_1.2]; decide)))))) ?_
              refine lv_iconst (v := 1) hx hb dX6_readTune_128 (by decide) ?_
              refine lv_iadd hx hb dX6_readTune_129 ?_
              refine lv_topi (fun v_31 ev_31 => ?_)
              have q_32 : v_31.toInt = (I (R this 2) 3).toInt + (1 : Int32).toInt := ow_add ev_31 (by omega) (by omega)
              refine cp_1_3_6 hx hb ht hown hK hN hP hD hS hm_1.1 hm_1.2 dX6_readTune_130 (fun H locs hP hD hS => ?_)
              replace hI := IV.up hI hm_1.2 3 (show 0 ≤ v_31.toInt ∧ v_31.toInt ≤ 14 from by omega)
              have f_33 : FI [(1, 3)] K I28 (va_up I28 (R this 2) (va_up (I28 (R this 2)) 3 v_31)) := FI.up hm_1.2 3 v_31
              have e_34 : (va_up I28 (R this 2) (va_up (I28 (R this 2)) 3 v_31)) (R this 2) 3 = v_31 := FI.at I28 (R this 2) 3 v_31
              replace hC_0 := FI.tr hC_0 f_33 (by decide)
              generalize (va_up I28 (R this 2) (va_up (I28 (R this 2)) 3 v_31)) = I_35 at hP hD hI f_33 e_34 hC_0
              refine lv_iconst (v := 1) hx hb dX6_readTune_133 (by decide) ?_
              refine W.widen (k := 0) (n := 0) (Nat.le_of_ble_eq_true rfl) (Nat.le_of_ble_eq_true rfl) ?_
              exact W.zret (v := 1) hx hb hr rfl (fun t ht9 hW => ⟨⟨1, (I_35, J28, E28, B28), rfl, ⟨hI, hE, hC_0, (by omega)⟩, ⟨by rw [ht9]; exact hP, hD⟩⟩, hS.F ht9⟩) hS.2.2 dX6_readTune_134
            · have q_36 : r_u_28.toInt = (0 : Int32).toInt := (ow_eq _ _).mp c_29
              refine lv_iconst (v := 0) hx hb dX6_readTune_118 (by decide) ?_
              refine W.widen (k := 0) (n := 0) (Nat.le_of_ble_eq_true rfl) (Nat.le_of_ble_eq_true rfl) ?_
              exact W.zret (v := 0) hx hb hr rfl (fun t ht9 hW => ⟨⟨0, (I28, J28, E28, B28), rfl, ⟨hI, hE, hC_0, (by omega)⟩, ⟨by rw [ht9]; exact hP, hD⟩⟩, hS.F ht9⟩) hS.2.2 dX6_readTune_119
      · have q_37 : ¬ r_u_9.toInt = ((-1) : Int32).toInt := by have := (not_congr (ow_eq _ _)).mp c_10; omega
        refine lv_aload_n hx hb dX6_readTune_50 rfl (lv_at hl 0 rfl) ?_
        refine lv_iconst (v := 3) hx hb dX6_readTune_51 (by decide) ?_
        have hFc := fr_free hD hS hA
        refine va_calli (va_runV (As := [.int 3]) (rest := []) ⟨hx, hb, hml, hown, ht⟩ (r_fail l G cy _ L K R T I5 E5 J5 B5 this (3) hRT hI hE hthis.1 hthis.2) (cwV 1 ht (gv k_655 k_656 k_657 k_633 k_654) rfl rfl rfl (by decide +kernel) ⟨Nat.le_of_ble_eq_true rfl, Nat.le_of_ble_eq_true rfl⟩) ⟨En.blind, cr_12 hK hP hthis.1 hthis.2, fun U hU hW => ⟨rfl, En.of hU hW hP hK hD hN⟩⟩ rfl rfl hl.1 rfl (lv_room (Nat.le_of_ble_eq_true rfl)) dX6_readTune_52 ⟨Nat.le_of_ble_eq_true rfl, Nat.le_of_ble_eq_true rfl⟩) hS (fun q _ h => hFc q h) hFc (fun r_u_38 u_38 t9 H locs ht9 hvm hw hB hz1 hk1 hS => ?_)
        obtain ⟨I38, J38, E38, B38⟩ := u_38
        obtain ⟨hP1, hD1⟩ := hB
        rw [ht9] at hP1
        clear hI hE
        obtain ⟨hI, hE, xu_38I, wu_38⟩ := hw
        dsimp only at hI hE xu_38I wu_38
        have hP : va_P G vwCl (WC cy L K R I38 J38 E38 B38) H := hP1
        have hD : va_D A (WC cy L K R I38 J38 E38 B38) := hD1.weaken (fun _ _ _ h => hFc _ h)
        clear hFc hk1 hz1 hP1 hD1
        replace hC_0 := FI.tr hC_0 xu_38I (by decide)
        obtain rfl : r_u_38 = 0 := (ow_eq _ _).mpr (by omega)
        refine W.widen (k := 0) (n := 0) (Nat.le_of_ble_eq_true rfl) (Nat.le_of_ble_eq_true rfl) ?_
        exact W.zret (v := 0) hx hb hr rfl (fun t ht9 hW => ⟨⟨0, (I38, J38, E38, B38), rfl, ⟨hI, hE, hC_0, (by omega)⟩, ⟨by rw [ht9]; exact hP, hD⟩⟩, hS.F ht9⟩) hS.2.2 dX6_readTune_55
    · have q_39 : ¬ (I5 this 4).toInt = (15 : Int32).toInt := by have := (not_congr (ow_eq _ _)).mp c_6; omega
      refine lv_aload_n hx hb dX6_readTune_30 rfl (lv_at hl 0 rfl) ?_
      have hFc := fr_free hD hS hA
      refine va_calli (va_runV (As := []) (rest := []) ⟨hx, hb, hml, hown, ht⟩ (r_refuse l G cy _ L K R T I5 E5 J5 B5 this hRT hI hE hthis.1 hthis.2) (cwV 0 ht (gv k_663 k_664 k_665 k_633 k_662) rfl rfl rfl (by decide +kernel) ⟨Nat.le_of_ble_eq_true rfl, Nat.le_of_ble_eq_true rfl⟩) ⟨En.blind, cr_12 hK hP hthis.1 hthis.2, fun U hU hW => ⟨rfl, En.of hU hW hP hK hD hN⟩⟩ rfl rfl hl.1 rfl (lv_room (Nat.le_of_ble_eq_true rfl)) dX6_readTune_31 ⟨Nat.le_of_ble_eq_true rfl, Nat.le_of_ble_eq_true rfl⟩) hS (fun q _ h => hFc q h) hFc (fun r_u_40 u_40 t9 H locs ht9 hvm hw hB hz1 hk1 hS => ?_)
      obtain ⟨I40, J40, E40, B40⟩ := u_40
      obtain ⟨hP1, hD1⟩ := hB
      rw [ht9] at hP1
      clear hI hE
      obtain ⟨hI, hE, xu_40I, wu_40⟩ := hw
      dsimp only at hI hE xu_40I wu_40
      have hP : va_P G vwCl (WC cy L K R I40 J40 E40 B40) H := hP1
      have hD : va_D A (WC cy L K R I40 J40 E40 B40) := hD1.weaken (fun _ _ _ h => hFc _ h)
      clear hFc hk1 hz1 hP1 hD1
      replace hC_0 := FI.tr hC_0 xu_40I (by decide)
      obtain rfl : r_u_40 = 0 := (ow_eq _ _).mpr (by omega)
      refine W.widen (k := 0) (n := 0) (Nat.le_of_ble_eq_true rfl) (Nat.le_of_ble_eq_true rfl) ?_
      exact W.zret (v := 0) hx hb hr rfl (fun t ht9 hW => ⟨⟨0, (I40, J40, E40, B40), rfl, ⟨hI, hE, hC_0, (by omega)⟩, ⟨by rw [ht9]; exact hP, hD⟩⟩, hS.F ht9⟩) hS.2.2 dX6_readTune_34
  · have q_41 : (14 : Int32).toInt ≤ (I (R this 2) 3).toInt := by have := (not_congr (ow_lt _ _)).mp c_3; omega
    refine lv_aload_n hx hb dX6_readTune_12 rfl (lv_at hl 0 rfl) ?_
    have hFc := fr_free hD hS hA
    refine va_calli (va_runV (As := []) (rest := []) ⟨hx, hb, hml, hown, ht⟩ (r_refuse l G cy _ L K R T I E J B this hRT hI hE hthis.1 hthis.2) (cwV 0 ht (gv k_663 k_664 k_665 k_633 k_662) rfl rfl rfl (by decide +kernel) ⟨Nat.le_of_ble_eq_true rfl, Nat.le_of_ble_eq_true rfl⟩) ⟨En.blind, cr_12 hK hP hthis.1 hthis.2, fun U hU hW => ⟨rfl, En.of hU hW hP hK hD hN⟩⟩ rfl rfl hl.1 rfl (lv_room (Nat.le_of_ble_eq_true rfl)) dX6_readTune_13 ⟨Nat.le_of_ble_eq_true rfl, Nat.le_of_ble_eq_true rfl⟩) hS (fun q _ h => hFc q h) hFc (fun r_u_42 u_42 t9 H locs ht9 hvm hw hB hz1 hk1 hS => ?_)
    obtain ⟨I42, J42, E42, B42⟩ := u_42
    obtain ⟨hP1, hD1⟩ := hB
    rw [ht9] at hP1
    clear hI hE
    obtain ⟨hI, hE, xu_42I, wu_42⟩ := hw
    dsimp only at hI hE xu_42I wu_42
    have hP : va_P G vwCl (WC cy L K R I42 J42 E42 B42) H := hP1
    have hD : va_D A (WC cy L K R I42 J42 E42 B42) := hD1.weaken (fun _ _ _ h => hFc _ h)
    clear hFc hk1 hz1 hP1 hD1
    replace hC_0 := FI.tr hC_0 xu_42I (by decide)
    obtain rfl : r_u_42 = 0 := (ow_eq _ _).mpr (by omega)
    refine W.widen (k := 0) (n := 0) (Nat.le_of_ble_eq_true rfl) (Nat.le_of_ble_eq_true rfl) ?_
    exact W.zret (v := 0) hx hb hr rfl (fun t ht9 hW => ⟨⟨0, (I42, J42, E42, B42), rfl, ⟨hI, hE, hC_0, (by omega)⟩, ⟨by rw [ht9]; exact hP, hD⟩⟩, hS.F ht9⟩) hS.2.2 dX6_readTune_16
set_option maxHeartbeats 4000000 in
set_option maxRecDepth 100000 in
theorem r_readSweet (l : Launch) (G : va_G) (cy : Nat → ClassId) (sz : Nat) (tq qq wq : Nat) (fo : Option Nat) (L : List Nat) (K : Nat → Nat) (R : Nat → Nat → Nat) (T : Int) (I E : Nat → Nat → Int32) (J B : Nat → Nat → Int64) (this : Nat)  (hRT : RT L K R) (hI : IV T L K I) (hE : EV L K E) (hthis1 : this ∈ L) (hthis2 : K this = 12) : Met l yX6_readSweet (.code yX6_readSweet cX6_readSweet 3 (some .boolean) :: TBg) ({ frames := 8, cells := 0, slots := 0, locals := 512 }) (va_Pc [.ref this] (EnX G cy (WC cy L K R I J E B) sz tq qq wq fo (va_A (WC cy L K R I J E B) sz))) (va_Qi (fun (r : Int32) (u : (Nat → Nat → Int32) × (Nat → Nat → Int64) × (Nat → Nat → Int32) × (Nat → Nat → Int64)) => IV T L K u.1 ∧ EV L K u.2.2.1 ∧ FI [(12, 3), (12, 4), (12, 5), (12, 6), (12, 8), (12, 9), (12, 10)] K I u.1 ∧ ((r.toInt = 0 ∨ r.toInt = 1))) (fun u t => Ex G (va_A (WC cy L K R I J E B) sz) (WC cy L K R u.1 u.2.1 u.2.2.1 u.2.2.2) t) (va_A (WC cy L K R I J E B) sz)) 0 0 (va_A (WC cy L K R I J E B) sz) := by
  have hthis : this ∈ L ∧ K this = 12 := ⟨hthis1, hthis2⟩
  refine Met.ofW (cc := cX6_readSweet) (maxL := 3) (ret := (some .boolean)) (by decide) rfl ?_
  intro p e s m args below meth c s₁ B9 hml hv9
  obtain ⟨rfl, ⟨hsz, hP, hK, hD0, hN⟩, hX⟩ := hv9
  have hx := B9.exec
  have hb := B9.bytes
  have hr := B9.returns
  have hts := atoms_spec (ws := .code yX6_readSweet cX6_readSweet 3 (some .boolean) :: TBg) B9.pre
  have ht : ∀ w ∈ TBg, w.before _ s = true := fun w h => hts w (List.mem_cons_of_mem _ h)
  have hown : s.vm.findClass RX6 = some m.cls := findClass_of_methodNamed B9.named
  have hlocks := B9.notSynchronized
  subst hsz
  have hD := hD0.self (sz := s.heap.size)
  generalize hAe : va_A (WC cy L K R I J E B) s.heap.size = A at hD hX ⊢
  have hA : ∀ q : Nat, s.heap.size ≤ q → A q := fun q h => by rw [← hAe]; exact Or.inr h
  have hS : va_S A s.heap s.heap [] := va_S.rf
  have hl := lv_entry ([.ref this]) (n := 3) (Nat.le_of_ble_eq_true rfl)
  rw [lg_entry_eq]
  generalize (lg_sl ([.ref this]) ++ List.replicate (3 - (lg_sl ([.ref this])).length) Slot.unset).toArray = ls at hl ⊢
  have hl : lv_has ls 3 [(0, .ref this)] := hl
  have z0 : (0 : Int32).toInt = 0 := by decide
  have z1 : (1 : Int32).toInt = 1 := by decide
  have z2 : (3 : Int32).toInt = 3 := by decide
  have z3 : (11 : Int32).toInt = 11 := by decide
  have z4 : (12 : Int32).toInt = 12 := by decide
  have z5 : (16 : Int32).toInt = 16 := by decide
  have z6 : (59 : Int32).toInt = 59 := by decide
  have hC_0 : FI [(12, 3), (12, 4), (12, 5), (12, 6), (12, 8), (12, 9), (12, 10)] K I I := FI.rf
  refine lv_aload_n hx hb dX6_readSweet_0 rfl (lv_at hl 0 rfl) ?_
  refine cg_12_8_6 hx hb ht hown hK hN hP hthis.1 hthis.2 dX6_readSweet_1 ?_
  have q_1 : 0 ≤ (I this 8).toInt ∧ (I this 8).toInt ≤ 1 := IV.rd hI hthis.1 hthis.2 8
  refine lv_if_eq (tgt := 12) hx hb dX6_readSweet_4 (by decide) (fun c_2 => ?_) (fun c_2 => ?_)
  · have q_3 : (I this 8).toInt = (0 : Int32).toInt := (ow_eq _ _).mp c_2
    refine lv_aload_n hx hb dX6_readSweet_12 rfl (lv_at hl 0 rfl) ?_
    refine lv_iconst (v := 1) hx hb dX6_readSweet_13 (by decide) ?_
    refine cp_12_8_6 (by omega) hx hb ht hown hK hN hP hD hS hthis.1 hthis.2 dX6_readSweet_14 (fun H locs hP hD hS => ?_)
    replace hI := IV.up hI hthis.2 8 (show 0 ≤ (1 : Int32).toInt ∧ (1 : Int32).toInt ≤ 1 from by omega)
    have f_4 : FI [(12, 8)] K I (va_up I this (va_up (I this) 8 1)) := FI.up hthis.2 8 (1 : Int32)
    have e_5 : (va_up I this (va_up (I this) 8 1)) this 8 = 1 := FI.at I this 8 (1 : Int32)
    replace hC_0 := FI.tr hC_0 f_4 (by decide)
    generalize (va_up I this (va_up (I this) 8 1)) = I_6 at hP hD hI f_4 e_5 hC_0
    refine lv_aload_n hx hb dX6_readSweet_17 rfl (lv_at hl 0 rfl) ?_
    have hFc := fr_free hD hS hA
    refine va_callv (va_runV (As := []) (rest := []) ⟨hx, hb, hml, hown, ht⟩ (r_takeToken l G cy _ tq qq wq fo L K R T I_6 E J B this hRT hI hE hthis.1 hthis.2) (cwV 0 ht (gv k_659 k_660 k_661 k_633 k_658) rfl rfl rfl (by decide +kernel) ⟨Nat.le_of_ble_eq_true rfl, Nat.le_of_ble_eq_true rfl⟩) ⟨EnX.blind, cr_12 hK hP hthis.1 hthis.2, fun U hU hW => ⟨rfl, En.of hU hW hP hK hD hN, XK.of hX hS hFc hU hW⟩⟩ rfl rfl hl.1 rfl (lv_room (Nat.le_of_ble_eq_true rfl)) dX6_readSweet_18 ⟨Nat.le_of_ble_eq_true rfl, Nat.le_of_ble_eq_true rfl⟩) hS (fun q _ h => hFc q h) hFc (fun u_7 t9 H locs ht9 hvm hw hB hz1 hk1 hS => ?_)
    obtain ⟨I7, J7, E7, B7⟩ := u_7
    obtain ⟨hP1, hD1⟩ := hB
    rw [ht9] at hP1
    clear hI hE
    obtain ⟨hI, hE, xu_7I, wu_7⟩ := hw
    dsimp only at hI hE xu_7I wu_7
    have hP : va_P G vwCl (WC cy L K R I7 J7 E7 B7) H := hP1
    have hD : va_D A (WC cy L K R I7 J7 E7 B7) := hD1.weaken (fun _ _ _ h => hFc _ h)
    clear hFc hk1 hz1 hP1 hD1
    replace hC_0 := FI.tr hC_0 xu_7I (by decide)
    replace wu_7 : ((I7 this 4).toInt ≠ 16 ∨ 0 ≤ (I7 this 6).toInt) := by
      have h9 : ((I7 this 4).toInt ≠ 16 ∨ 0 ≤ (I7 this 6).toInt) := wu_7
      exact h9
    refine lv_iconst (v := 0) hx hb dX6_readSweet_21 (by decide) ?_
    refine lv_istore_n (lv' := [(1, .int 0), (0, .ref this)]) hx hb dX6_readSweet_22 rfl hl (by decide) rfl (fun ls hl => ?_)
    refine W.widen (k := 0) (n := 0) (Nat.le_of_ble_eq_true rfl) (Nat.le_of_ble_eq_true rfl) ?_
    have lp_8 : ∀ (N_8 : Nat) (x1_8 : Int32) (I8 : Nat → Nat → Int32) (J8 : Nat → Nat → Int64) (E8 : Nat → Nat → Int32) (B8 : Nat → Nat → Int64) (H : Heap) (locs : List Loc) (ls : Array Slot), IV T L K I8 → EV L K E8 → FI [(12, 3), (12, 4), (12, 5), (12, 6), (12, 8), (12, 9), (12, 10)] K I7 I8 → (0 ≤ x1_8.toInt ∧ x1_8.toInt ≤ 12) → ((I8 this 4).toInt ≠ 16 ∨ 0 ≤ (I8 this 6).toInt) → (12 - x1_8.toInt).toNat < N_8 → va_P G vwCl (WC cy L K R I8 J8 E8 B8) H → va_D A (WC cy L K R I8 J8 E8 B8) → va_S A s.heap H locs → lv_has ls 3 [(1, .int x1_8), (0, .ref this)] → W p l e (headSpec (.code yX6_readSweet cX6_readSweet 3 (some .boolean) :: TBg) ({ frames := 8, cells := 0, slots := 0, locals := 512 })).room s m ([.ref this] : List Value).toArray below meth c H locs 0 0 (MQ below (va_Qi (fun (r : Int32) (u : (Nat → Nat → Int32) × (Nat → Nat → Int64) × (Nat → Nat → Int32) × (Nat → Nat → Int64)) => IV T L K u.1 ∧ EV L K u.2.2.1 ∧ FI [(12, 3), (12, 4), (12, 5), (12, 6), (12, 8), (12, 9), (12, 10)] K I u.1 ∧ ((r.toInt = 0 ∨ r.toInt = 1))) (fun u t => Ex G A (WC cy L K R u.1 u.2.1 u.2.2.1 u.2.2.2) t) A) ([.ref this] : List Value).toArray s 0 0 A) (F0 m 23 ls []) := by
      intro N_8
      induction N_8 with
      | zero => intro x1_8 I8 J8 E8 B8 H locs ls hI hE hC_8 qf8_0 qf8_1 hm9 hP hD hS hl; exact absurd hm9 (Nat.not_lt_zero _)
      | succ N_8 ih_8 =>
        intro x1_8 I8 J8 E8 B8 H locs ls hI hE hC_8 qf8_0 qf8_1 hm9 hP hD hS hl
        replace hC_0 := FI.tr hC_0 hC_8 (by decide)
        have hX_8 := hC_8
        refine lv_iload_n hx hb dX6_readSweet_23 rfl (lv_at hl 0 rfl) ?_
        refine lv_bipush (v := 12) hx hb dX6_readSweet_24 (by decide) ?_
        refine lv_icmp_ge (tgt := 108) hx hb dX6_readSweet_26 (by decide) (fun c_9 => ?_) (fun c_9 => ?_)
        · have q_10 : (12 : Int32).toInt ≤ x1_8.toInt := (ow_le _ _).mp c_9
          refine lv_aload_n hx hb dX6_readSweet_108 rfl (lv_at hl 1 rfl) ?_
          refine lv_bipush (v := 59) hx hb dX6_readSweet_109 (by decide) ?_
          have hFc := fr_free hD hS hA
          refine va_calli (va_runV (As := [.int 59]) (rest := []) ⟨hx, hb, hml, hown, ht⟩ (r_take l G cy _ tq qq wq fo L K R T I8 E8 J8 B8 this (59) hRT hI hE hthis.1 hthis.2) (cwV 1 ht (gv k_676 k_677 k_678 k_633 k_675) rfl rfl rfl (by decide +kernel) ⟨Nat.le_of_ble_eq_true rfl, Nat.le_of_ble_eq_true rfl⟩) ⟨EnX.blind, cr_12 hK hP hthis.1 hthis.2, fun U hU hW => ⟨rfl, En.of hU hW hP hK hD hN, XK.of hX hS hFc hU hW⟩⟩ rfl rfl hl.1 rfl (lv_room (Nat.le_of_ble_eq_true rfl)) dX6_readSweet_111 ⟨Nat.le_of_ble_eq_true rfl, Nat.le_of_ble_eq_true rfl⟩) hS (fun q _ h => hFc q h) hFc (fun r_u_11 u_11 t9 H locs ht9 hvm hw hB hz1 hk1 hS => ?_)
          obtain ⟨I11, J11, E11, B11⟩ := u_11
          obtain ⟨hP1, hD1⟩ := hB
          rw [ht9] at hP1
          clear hI hE
          obtain ⟨hI, hE, xu_11I, wu_11⟩ := hw
          dsimp only at hI hE xu_11I wu_11
          have hP : va_P G vwCl (WC cy L K R I11 J11 E11 B11) H := hP1
          have hD : va_D A (WC cy L K R I11 J11 E11 B11) := hD1.weaken (fun _ _ _ h => hFc _ h)
          clear hFc hk1 hz1 hP1 hD1
          replace hC_0 := FI.tr hC_0 xu_11I (by decide)
          replace hX_8 := FI.tr hX_8 xu_11I (by decide)
          refine W.widen (k := 0) (n := 0) (Nat.le_of_ble_eq_true rfl) (Nat.le_of_ble_eq_true rfl) ?_
          exact W.zret (v := r_u_11) hx hb hr (ow_nb (by omega)) (fun t ht9 hW => ⟨⟨r_u_11, (I11, J11, E11, B11), rfl, ⟨hI, hE, hC_0, (by omega)⟩, ⟨by rw [ht9]; exact hP, hD⟩⟩, hS.F ht9⟩) hS.2.2 dX6_readSweet_114
        · have q_12 : x1_8.toInt < (12 : Int32).toInt := by have := (not_congr (ow_le _ _)).mp c_9; omega
          refine lv_iload_n hx hb dX6_readSweet_29 rfl (lv_at hl 0 rfl) ?_
          refine lv_if_eq (tgt := 42) hx hb dX6_readSweet_30 (by decide) (fun c_13 => ?_) (fun c_13 => ?_)
          · have q_14 : x1_8.toInt = (0 : Int32).toInt := (ow_eq _ _).mp c_13
            refine lv_aload_n hx hb dX6_readSweet_42 rfl (lv_at hl 1 rfl) ?_
            refine cg_12_6_6 hx hb ht hown hK hN hP hthis.1 hthis.2 dX6_readSweet_43 ?_
            refine lv_istore_n (lv' := [(2, .int (I8 this 6)), (1, .int x1_8), (0, .ref this)]) hx hb dX6_readSweet_46 rfl hl (by decide) rfl (fun ls hl => ?_)
            refine lv_aload_n hx hb dX6_readSweet_47 rfl (lv_at hl 2 rfl) ?_
            refine cg_12_4_6 hx hb ht hown hK hN hP hthis.1 hthis.2 dX6_readSweet_48 ?_
            refine lv_bipush (v := 16) hx hb dX6_readSweet_51 (by decide) ?_
            refine lv_icmp_ne (tgt := 80) hx hb dX6_readSweet_53 (by decide) (fun c_15 => ?_) (fun c_15 => ?_)
            · have q_16 : ¬ (I8 this 4).toInt = (16 : Int32).toInt := by have := (not_congr (ow_eq _ _)).mp c_15; omega
              refine lv_aload_n hx hb dX6_readSweet_80 rfl (lv_at hl 2 rfl) ?_
              refine lv_iconst (v := 0) hx hb dX6_readSweet_81 (by decide) ?_
              refine lv_bipush (v := 11) hx hb dX6_readSweet_82 (by decide) ?_
              have hFc := fr_free hD hS hA
              refine va_calli (va_runV (As := [.int 0, .int 11]) (rest := []) ⟨hx, hb, hml, hown, ht⟩ (r_takeNumber l G cy _ tq qq wq fo L K R T I8 E8 J8 B8 this (0) (11) hRT hI hE hthis.1 hthis.2) (cwV 2 ht (gv k_667 k_668 k_669 k_633 k_666) rfl rfl rfl (by decide +kernel) ⟨Nat.le_of_ble_eq_true rfl, Nat.le_of_ble_eq_true rfl⟩) ⟨EnX.blind, cr_12 hK hP hthis.1 hthis.2, fun U hU hW => ⟨rfl, En.of hU hW hP hK hD hN, XK.of hX hS hFc hU hW⟩⟩ rfl rfl hl.1 rfl (lv_room (Nat.le_of_ble_eq_true rfl)) dX6_readSweet_84 ⟨Nat.le_of_ble_eq_true rfl, Nat.le_of_ble_eq_true rfl⟩) hS (fun q _ h => hFc q h) hFc (fun r_u_17 u_17 t9 H locs ht9 hvm hw hB hz1 hk1 hS => ?_)
              obtain ⟨I17, J17, E17, B17⟩ := u_17
              obtain ⟨hP1, hD1⟩ := hB
              rw [ht9] at hP1
              clear hI hE
              obtain ⟨hI, hE, xu_17I, wu_17⟩ := hw
              dsimp only at hI hE xu_17I wu_17
              have hP : va_P G vwCl (WC cy L K R I17 J17 E17 B17) H := hP1
              have hD : va_D A (WC cy L K R I17 J17 E17 B17) := hD1.weaken (fun _ _ _ h => hFc _ h)
              clear hFc hk1 hz1 hP1 hD1
              replace hC_0 := FI.tr hC_0 xu_17I (by decide)
              replace hX_8 := FI.tr hX_8 xu_17I (by decide)
              replace wu_17 : (r_u_17.toInt = 0 ∨ r_u_17.toInt = 1) ∧ (r_u_17.toInt = 0 ∨ ((0 : Int32).toInt ≤ (I8 this 6).toInt ∧ (I8 this 6).toInt ≤ (11 : Int32).toInt ∧ ((I17 this 4).toInt ≠ 16 ∨ 0 ≤ (I17 this 6).toInt))) := by
                have h9 : (r_u_17.toInt = 0 ∨ r_u_17.toInt = 1) ∧ (r_u_17.toInt = 0 ∨ ((0 : Int32).toInt ≤ (I8 this 6).toInt ∧ (I8 this 6).toInt ≤ (11 : Int32).toInt ∧ ((I17 this 4).toInt ≠ 16 ∨ 0 ≤ (I17 this 6).toInt))) := wu_17
                exact h9
              refine lv_if_ne (tgt := 92) hx hb dX6_readSweet_87 (by decide) (fun c_18 => ?_) (fun c_18 => ?_)
              · have q_19 : ¬ r_u_17.toInt = (0 : Int32).toInt := by have := (not_congr (ow_eq _ _)).mp c_18; omega
                refine lv_aload_n hx hb dX6_readSweet_92 rfl (lv_at hl 2 rfl) ?_
                refine cg_12_2_6 hx hb ht hown hK hN hP hthis.1 hthis.2 dX6_readSweet_93 ?_
                have hm_20 : (R this 2) ∈ L ∧ K (R this 2) = 1 := RT.o hRT hthis.1 hthis.2 2 (by decide)
                refine cg_1_8_6 hx hb ht hown hK hN hP hm_20.1 hm_20.2 dX6_readSweet_96 ?_
                have hm_21 : (R (R this 2) 8) ∈ L ∧ K (R (R this 2) 8) = 33 := RT.o hRT hm_20.1 hm_20.2 8 (by decide)
                refine lv_iload_n hx hb dX6_readSweet_99 rfl (lv_at hl 0 rfl) ?_
                refine lv_iconst (v := 1) hx hb dX6_readSweet_100 (by decide) ?_
                have q_22 : vp_in (I8 this 6) 12 := vp_in_iff.mpr ⟨by omega, by omega⟩
                refine cs_33 hx hb hK hP hD hS hm_21.1 hm_21.2 q_22 dX6_readSweet_101 (fun H locs hP hD hS => ?_)
                replace hE := EV.up hE hm_21.2 (i := (Int32.toNatClampNeg (I8 this 6))) (ow_nz (1 : Int32))
                generalize (va_up E17 (R (R this 2) 8) (upd (E17 (R (R this 2) 8)) (Int32.toNatClampNeg (I8 this 6)) (vp_nar .boolean 1))) = E_23 at hP hD hE
                obtain ⟨v_24, ev_24⟩ : ∃ y : Int32, y = x1_8 + 1 := ⟨_, rfl⟩
                refine lv_iinc (v := v_24) (lv' := [(1, .int v_24), (2, .int (I8 this 6)), (0, .ref this)]) hx hb dX6_readSweet_102 hl (k := 1) rfl (by rw [ev_24]; rfl) (by decide) rfl (fun ls hl => ?_)
                have q_25 : v_24.toInt = x1_8.toInt + 1 := by have := ow_add ev_24 (by omega) (by omega); omega
                refine lv_goto (tgt := 23) hx hb dX6_readSweet_105 (by decide) ?_
                refine W.widen (k := 0) (n := 0) (Nat.le_of_ble_eq_true rfl) (Nat.le_of_ble_eq_true rfl) ?_
                exact ih_8 v_24 I17 J17 E_23 B17 _ _ _ hI hE hX_8 (by omega) (show (I17 this 4).toInt ≠ 16 ∨ 0 ≤ (I17 this 6).toInt from by omega) (by omega) hP hD hS (lv_sub hl [0, 2] rfl)
              · have q_26 : r_u_17.toInt = (0 : Int32).toInt := (ow_eq _ _).mp c_18
                refine lv_iconst (v := 0) hx hb dX6_readSweet_90 (by decide) ?_
                refine W.widen (k := 0) (n := 0) (Nat.le_of_ble_eq_true rfl) (Nat.le_of_ble_eq_true rfl) ?_
                exact W.zret (v := 0) hx hb hr rfl (fun t ht9 hW => ⟨⟨0, (I17, J17, E17, B17), rfl, ⟨hI, hE, hC_0, (by omega)⟩, ⟨by rw [ht9]; exact hP, hD⟩⟩, hS.F ht9⟩) hS.2.2 dX6_readSweet_91
            · have q_27 : (I8 this 4).toInt = (16 : Int32).toInt := (ow_eq _ _).mp c_15
              refine lv_iload_n hx hb dX6_readSweet_56 rfl (lv_at hl 0 rfl) ?_
              refine lv_bipush (v := 12) hx hb dX6_readSweet_57 (by decide) ?_
              refine lv_icmp_ge (tgt := 80) hx hb dX6_readSweet_59 (by decide) (fun c_28 => ?_) (fun c_28 => ?_)
              · have q_29 : (12 : Int32).toInt ≤ (I8 this 6).toInt := (ow_le _ _).mp c_28
                refine lv_aload_n hx hb dX6_readSweet_80 rfl (lv_at hl 2 rfl) ?_
                refine lv_iconst (v := 0) hx hb dX6_readSweet_81 (by decide) ?_
                refine lv_bipush (v := 11) hx hb dX6_readSweet_82 (by decide) ?_
                have hFc := fr_free hD hS hA
                refine va_calli (va_runV (As := [.int 0, .int 11]) (rest := []) ⟨hx, hb, hml, hown, ht⟩ (r_takeNumber l G cy _ tq qq wq fo L K R T I8 E8 J8 B8 this (0) (11) hRT hI hE hthis.1 hthis.2) (cwV 2 ht (gv k_667 k_668 k_669 k_633 k_666) rfl rfl rfl (by decide +kernel) ⟨Nat.le_of_ble_eq_true rfl, Nat.le_of_ble_eq_true rfl⟩) ⟨EnX.blind, cr_12 hK hP hthis.1 hthis.2, fun U hU hW => ⟨rfl, En.of hU hW hP hK hD hN, XK.of hX hS hFc hU hW⟩⟩ rfl rfl hl.1 rfl (lv_room (Nat.le_of_ble_eq_true rfl)) dX6_readSweet_84 ⟨Nat.le_of_ble_eq_true rfl, Nat.le_of_ble_eq_true rfl⟩) hS (fun q _ h => hFc q h) hFc (fun r_u_30 u_30 t9 H locs ht9 hvm hw hB hz1 hk1 hS => ?_)
                obtain ⟨I30, J30, E30, B30⟩ := u_30
                obtain ⟨hP1, hD1⟩ := hB
                rw [ht9] at hP1
                clear hI hE
                obtain ⟨hI, hE, xu_30I, wu_30⟩ := hw
                dsimp only at hI hE xu_30I wu_30
                have hP : va_P G vwCl (WC cy L K R I30 J30 E30 B30) H := hP1
                have hD : va_D A (WC cy L K R I30 J30 E30 B30) := hD1.weaken (fun _ _ _ h => hFc _ h)
                clear hFc hk1 hz1 hP1 hD1
                replace hC_0 := FI.tr hC_0 xu_30I (by decide)
                replace hX_8 := FI.tr hX_8 xu_30I (by decide)
                replace wu_30 : (r_u_30.toInt = 0 ∨ r_u_30.toInt = 1) ∧ (r_u_30.toInt = 0 ∨ ((0 : Int32).toInt ≤ (I8 this 6).toInt ∧ (I8 this 6).toInt ≤ (11 : Int32).toInt ∧ ((I30 this 4).toInt ≠ 16 ∨ 0 ≤ (I30 this 6).toInt))) := by
                  have h9 : (r_u_30.toInt = 0 ∨ r_u_30.toInt = 1) ∧ (r_u_30.toInt = 0 ∨ ((0 : Int32).toInt ≤ (I8 this 6).toInt ∧ (I8 this 6).toInt ≤ (11 : Int32).toInt ∧ ((I30 this 4).toInt ≠ 16 ∨ 0 ≤ (I30 this 6).toInt))) := wu_30
                  exact h9
                refine lv_if_ne (tgt := 92) hx hb dX6_readSweet_87 (by decide) (fun c_31 => ?_) (fun c_31 => ?_)
                · have q_32 : ¬ r_u_30.toInt = (0 : Int32).toInt := by have := (not_congr (ow_eq _ _)).mp c_31; omega
                  refine lv_aload_n hx hb dX6_readSweet_92 rfl (lv_at hl 2 rfl) ?_
                  refine cg_12_2_6 hx hb ht hown hK hN hP hthis.1 hthis.2 dX6_readSweet_93 ?_
                  have hm_33 : (R this 2) ∈ L ∧ K (R this 2) = 1 := RT.o hRT hthis.1 hthis.2 2 (by decide)
                  refine cg_1_8_6 hx hb ht hown hK hN hP hm_33.1 hm_33.2 dX6_readSweet_96 ?_
                  have hm_34 : (R (R this 2) 8) ∈ L ∧ K (R (R this 2) 8) = 33 := RT.o hRT hm_33.1 hm_33.2 8 (by decide)
                  refine lv_iload_n hx hb dX6_readSweet_99 rfl (lv_at hl 0 rfl) ?_
                  refine lv_iconst (v := 1) hx hb dX6_readSweet_100 (by decide) ?_
                  have q_35 : vp_in (I8 this 6) 12 := vp_in_iff.mpr ⟨by omega, by omega⟩
                  refine cs_33 hx hb hK hP hD hS hm_34.1 hm_34.2 q_35 dX6_readSweet_101 (fun H locs hP hD hS => ?_)
                  replace hE := EV.up hE hm_34.2 (i := (Int32.toNatClampNeg (I8 this 6))) (ow_nz (1 : Int32))
                  generalize (va_up E30 (R (R this 2) 8) (upd (E30 (R (R this 2) 8)) (Int32.toNatClampNeg (I8 this 6)) (vp_nar .boolean 1))) = E_36 at hP hD hE
                  obtain ⟨v_37, ev_37⟩ : ∃ y : Int32, y = x1_8 + 1 := ⟨_, rfl⟩
                  refine lv_iinc (v := v_37) (lv' := [(1, .int v_37), (2, .int (I8 this 6)), (0, .ref this)]) hx hb dX6_readSweet_102 hl (k := 1) rfl (by rw [ev_37]; rfl) (by decide) rfl (fun ls hl => ?_)
                  have q_38 : v_37.toInt = x1_8.toInt + 1 := by have := ow_add ev_37 (by omega) (by omega); omega
                  refine lv_goto (tgt := 23) hx hb dX6_readSweet_105 (by decide) ?_
                  refine W.widen (k := 0) (n := 0) (Nat.le_of_ble_eq_true rfl) (Nat.le_of_ble_eq_true rfl) ?_
                  exact ih_8 v_37 I30 J30 E_36 B30 _ _ _ hI hE hX_8 (by omega) (show (I30 this 4).toInt ≠ 16 ∨ 0 ≤ (I30 this 6).toInt from by omega) (by omega) hP hD hS (lv_sub hl [0, 2] rfl)
                · have q_39 : r_u_30.toInt = (0 : Int32).toInt := (ow_eq _ _).mp c_31
                  refine lv_iconst (v := 0) hx hb dX6_readSweet_90 (by decide) ?_
                  refine W.widen (k := 0) (n := 0) (Nat.le_of_ble_eq_true rfl) (Nat.le_of_ble_eq_true rfl) ?_
                  exact W.zret (v := 0) hx hb hr rfl (fun t ht9 hW => ⟨⟨0, (I30, J30, E30, B30), rfl, ⟨hI, hE, hC_0, (by omega)⟩, ⟨by rw [ht9]; exact hP, hD⟩⟩, hS.F ht9⟩) hS.2.2 dX6_readSweet_91
              · have q_40 : (I8 this 6).toInt < (12 : Int32).toInt := by have := (not_congr (ow_le _ _)).mp c_28; omega
                refine lv_aload_n hx hb dX6_readSweet_62 rfl (lv_at hl 2 rfl) ?_
                refine cg_12_2_6 hx hb ht hown hK hN hP hthis.1 hthis.2 dX6_readSweet_63 ?_
                have hm_41 : (R this 2) ∈ L ∧ K (R this 2) = 1 := RT.o hRT hthis.1 hthis.2 2 (by decide)
                refine cg_1_8_6 hx hb ht hown hK hN hP hm_41.1 hm_41.2 dX6_readSweet_66 ?_
                have hm_42 : (R (R this 2) 8) ∈ L ∧ K (R (R this 2) 8) = 33 := RT.o hRT hm_41.1 hm_41.2 8 (by decide)
                refine lv_iload_n hx hb dX6_readSweet_69 rfl (lv_at hl 0 rfl) ?_
                have q_43 : vp_in (I8 this 6) 12 := vp_in_iff.mpr ⟨by omega, by omega⟩
                refine cl_33 hx hb hK hP hm_42.1 hm_42.2 q_43 dX6_readSweet_70 ?_
                refine lv_topi (fun v_44 ev_44 => ?_)
                have q_45 : 0 ≤ v_44.toInt ∧ v_44.toInt ≤ 1 := by rw [ev_44]; exact EV.rd hE hm_42.1 hm_42.2 q_43
                refine lv_if_eq (tgt := 80) hx hb dX6_readSweet_71 (by decide) (fun c_46 => ?_) (fun c_46 => ?_)
                · have q_47 : v_44.toInt = (0 : Int32).toInt := (ow_eq _ _).mp c_46
                  refine lv_aload_n hx hb dX6_readSweet_80 rfl (lv_at hl 2 rfl) ?_
                  refine lv_iconst (v := 0) hx hb dX6_readSweet_81 (by decide) ?_
                  refine lv_bipush (v := 11) hx hb dX6_readSweet_82 (by decide) ?_
                  have hFc := fr_free hD hS hA
                  refine va_calli (va_runV (As := [.int 0, .int 11]) (rest := []) ⟨hx, hb, hml, hown, ht⟩ (r_takeNumber l G cy _ tq qq wq fo L K R T I8 E8 J8 B8 this (0) (11) hRT hI hE hthis.1 hthis.2) (cwV 2 ht (gv k_667 k_668 k_669 k_633 k_666) rfl rfl rfl (by decide +kernel) ⟨Nat.le_of_ble_eq_true rfl, Nat.le_of_ble_eq_true rfl⟩) ⟨EnX.blind, cr_12 hK hP hthis.1 hthis.2, fun U hU hW => ⟨rfl, En.of hU hW hP hK hD hN, XK.of hX hS hFc hU hW⟩⟩ rfl rfl hl.1 rfl (lv_room (Nat.le_of_ble_eq_true rfl)) dX6_readSweet_84 ⟨Nat.le_of_ble_eq_true rfl, Nat.le_of_ble_eq_true rfl⟩) hS (fun q _ h => hFc q h) hFc (fun r_u_48 u_48 t9 H locs ht9 hvm hw hB hz1 hk1 hS => ?_)
                  obtain ⟨I48, J48, E48, B48⟩ := u_48
                  obtain ⟨hP1, hD1⟩ := hB
                  rw [ht9] at hP1
                  clear hI hE
                  obtain ⟨hI, hE, xu_48I, wu_48⟩ := hw
                  dsimp only at hI hE xu_48I wu_48
                  have hP : va_P G vwCl (WC cy L K R I48 J48 E48 B48) H := hP1
                  have hD : va_D A (WC cy L K R I48 J48 E48 B48) := hD1.weaken (fun _ _ _ h => hFc _ h)
                  clear hFc hk1 hz1 hP1 hD1
                  replace hC_0 := FI.tr hC_0 xu_48I (by decide)
                  replace hX_8 := FI.tr hX_8 xu_48I (by decide)
                  replace wu_48 : (r_u_48.toInt = 0 ∨ r_u_48.toInt = 1) ∧ (r_u_48.toInt = 0 ∨ ((0 : Int32).toInt ≤ (I8 this 6).toInt ∧ (I8 this 6).toInt ≤ (11 : Int32).toInt ∧ ((I48 this 4).toInt ≠ 16 ∨ 0 ≤ (I48 this 6).toInt))) := by
                    have h9 : (r_u_48.toInt = 0 ∨ r_u_48.toInt = 1) ∧ (r_u_48.toInt = 0 ∨ ((0 : Int32).toInt ≤ (I8 this 6).toInt ∧ (I8 this 6).toInt ≤ (11 : Int32).toInt ∧ ((I48 this 4).toInt ≠ 16 ∨ 0 ≤ (I48 this 6).toInt))) := wu_48
                    exact h9
                  refine lv_if_ne (tgt := 92) hx hb dX6_readSweet_87 (by decide) (fun c_49 => ?_) (fun c_49 => ?_)
                  · have q_50 : ¬ r_u_48.toInt = (0 : Int32).toInt := by have := (not_congr (ow_eq _ _)).mp c_49; omega
                    refine lv_aload_n hx hb dX6_readSweet_92 rfl (lv_at hl 2 rfl) ?_
                    refine cg_12_2_6 hx hb ht hown hK hN hP hthis.1 hthis.2 dX6_readSweet_93 ?_
                    refine cg_1_8_6 hx hb ht hown hK hN hP hm_41.1 hm_41.2 dX6_readSweet_96 ?_
                    refine lv_iload_n hx hb dX6_readSweet_99 rfl (lv_at hl 0 rfl) ?_
                    refine lv_iconst (v := 1) hx hb dX6_readSweet_100 (by decide) ?_
                    have q_51 : vp_in (I8 this 6) 12 := vp_in_iff.mpr ⟨by omega, by omega⟩
                    refine cs_33 hx hb hK hP hD hS hm_42.1 hm_42.2 q_51 dX6_readSweet_101 (fun H locs hP hD hS => ?_)
                    replace hE := EV.up hE hm_42.2 (i := (Int32.toNatClampNeg (I8 this 6))) (ow_nz (1 : Int32))
                    generalize (va_up E48 (R (R this 2) 8) (upd (E48 (R (R this 2) 8)) (Int32.toNatClampNeg (I8 this 6)) (vp_nar .boolean 1))) = E_52 at hP hD hE
                    obtain ⟨v_53, ev_53⟩ : ∃ y : Int32, y = x1_8 + 1 := ⟨_, rfl⟩
                    refine lv_iinc (v := v_53) (lv' := [(1, .int v_53), (2, .int (I8 this 6)), (0, .ref this)]) hx hb dX6_readSweet_102 hl (k := 1) rfl (by rw [ev_53]; rfl) (by decide) rfl (fun ls hl => ?_)
                    have q_54 : v_53.toInt = x1_8.toInt + 1 := by have := ow_add ev_53 (by omega) (by omega); omega
                    refine lv_goto (tgt := 23) hx hb dX6_readSweet_105 (by decide) ?_
                    refine W.widen (k := 0) (n := 0) (Nat.le_of_ble_eq_true rfl) (Nat.le_of_ble_eq_true rfl) ?_
                    exact ih_8 v_53 I48 J48 E_52 B48 _ _ _ hI hE hX_8 (by omega) (show (I48 this 4).toInt ≠ 16 ∨ 0 ≤ (I48 this 6).toInt from by omega) (by omega) hP hD hS (lv_sub hl [0, 2] rfl)
                  · have q_55 : r_u_48.toInt = (0 : Int32).toInt := (ow_eq _ _).mp c_49
                    refine lv_iconst (v := 0) hx hb dX6_readSweet_90 (by decide) ?_
                    refine W.widen (k := 0) (n := 0) (Nat.le_of_ble_eq_true rfl) (Nat.le_of_ble_eq_true rfl) ?_
                    exact W.zret (v := 0) hx hb hr rfl (fun t ht9 hW => ⟨⟨0, (I48, J48, E48, B48), rfl, ⟨hI, hE, hC_0, (by omega)⟩, ⟨by rw [ht9]; exact hP, hD⟩⟩, hS.F ht9⟩) hS.2.2 dX6_readSweet_91
                · have q_56 : ¬ v_44.toInt = (0 : Int32).toInt := by have := (not_congr (ow_eq _ _)).mp c_46; omega
                  refine lv_aload_n hx hb dX6_readSweet_74 rfl (lv_at hl 2 rfl) ?_
                  refine lv_iconst (v := 3) hx hb dX6_readSweet_75 (by decide) ?_
                  have hFc := fr_free hD hS hA
                  refine va_calli (va_runV (As := [.int 3]) (rest := []) ⟨hx, hb, hml, hown, ht⟩ (r_fail l G cy _ L K R T I8 E8 J8 B8 this (3) hRT hI hE hthis.1 hthis.2) (cwV 1 ht (gv k_655 k_656 k_657 k_633 k_654) rfl rfl rfl (by decide +kernel) ⟨Nat.le_of_ble_eq_true rfl, Nat.le_of_ble_eq_true rfl⟩) ⟨En.blind, cr_12 hK hP hthis.1 hthis.2, fun U hU hW => ⟨rfl, En.of hU hW hP hK hD hN⟩⟩ rfl rfl hl.1 rfl (lv_room (Nat.le_of_ble_eq_true rfl)) dX6_readSweet_76 ⟨Nat.le_of_ble_eq_true rfl, Nat.le_of_ble_eq_true rfl⟩) hS (fun q _ h => hFc q h) hFc (fun r_u_57 u_57 t9 H locs ht9 hvm hw hB hz1 hk1 hS => ?_)
                  obtain ⟨I57, J57, E57, B57⟩ := u_57
                  obtain ⟨hP1, hD1⟩ := hB
                  rw [ht9] at hP1
                  clear hI hE
                  obtain ⟨hI, hE, xu_57I, wu_57⟩ := hw
                  dsimp only at hI hE xu_57I wu_57
                  have hP : va_P G vwCl (WC cy L K R I57 J57 E57 B57) H := hP1
                  have hD : va_D A (WC cy L K R I57 J57 E57 B57) := hD1.weaken (fun _ _ _ h => hFc _ h)
                  clear hFc hk1 hz1 hP1 hD1
                  replace hC_0 := FI.tr hC_0 xu_57I (by decide)
                  replace hX_8 := FI.tr hX_8 xu_57I (by decide)
                  obtain rfl : r_u_57 = 0 := (ow_eq _ _).mpr (by omega)
                  refine W.widen (k := 0) (n := 0) (Nat.le_of_ble_eq_true rfl) (Nat.le_of_ble_eq_true rfl) ?_
                  exact W.zret (v := 0) hx hb hr rfl (fun t ht9 hW => ⟨⟨0, (I57, J57, E57, B57), rfl, ⟨hI, hE, hC_0, (by omega)⟩, ⟨by rw [ht9]; exact hP, hD⟩⟩, hS.F ht9⟩) hS.2.2 dX6_readSweet_79
          · have q_58 : ¬ x1_8.toInt = (0 : Int32).toInt := by have := (not_congr (ow_eq _ _)).mp c_13; omega
            refine lv_aload_n hx hb dX6_readSweet_33 rfl (lv_at hl 1 rfl) ?_
            refine cg_12_4_6 hx hb ht hown hK hN hP hthis.1 hthis.2 dX6_readSweet_34 ?_
            refine lv_bipush (v := 16) hx hb dX6_readSweet_37 (by decide) ?_
            refine lv_icmp_ne (tgt := 108) hx hb dX6_readSweet_39 (by decide) (fun c_59 => ?_) (fun c_59 => ?_)
            · have q_60 : ¬ (I8 this 4).toInt = (16 : Int32).toInt := by have := (not_congr (ow_eq _ _)).mp c_59; omega
              refine lv_aload_n hx hb dX6_readSweet_108 rfl (lv_at hl 1 rfl) ?_
              refine lv_bipush (v := 59) hx hb dX6_readSweet_109 (by decide) ?_
              have hFc := fr_free hD hS hA
              refine va_calli (va_runV (As := [.int 59]) (rest := []) ⟨hx, hb, hml, hown, ht⟩ (r_take l G cy _ tq qq wq fo L K R T I8 E8 J8 B8 this (59) hRT hI hE hthis.1 hthis.2) (cwV 1 ht (gv k_676 k_677 k_678 k_633 k_675) rfl rfl rfl (by decide +kernel) ⟨Nat.le_of_ble_eq_true rfl, Nat.le_of_ble_eq_true rfl⟩) ⟨EnX.blind, cr_12 hK hP hthis.1 hthis.2, fun U hU hW => ⟨rfl, En.of hU hW hP hK hD hN, XK.of hX hS hFc hU hW⟩⟩ rfl rfl hl.1 rfl (lv_room (Nat.le_of_ble_eq_true rfl)) dX6_readSweet_111 ⟨Nat.le_of_ble_eq_true rfl, Nat.le_of_ble_eq_true rfl⟩) hS (fun q _ h => hFc q h) hFc (fun r_u_61 u_61 t9 H locs ht9 hvm hw hB hz1 hk1 hS => ?_)
              obtain ⟨I61, J61, E61, B61⟩ := u_61
              obtain ⟨hP1, hD1⟩ := hB
              rw [ht9] at hP1
              clear hI hE
              obtain ⟨hI, hE, xu_61I, wu_61⟩ := hw
              dsimp only at hI hE xu_61I wu_61
              have hP : va_P G vwCl (WC cy L K R I61 J61 E61 B61) H := hP1
              have hD : va_D A (WC cy L K R I61 J61 E61 B61) := hD1.weaken (fun _ _ _ h => hFc _ h)
              clear hFc hk1 hz1 hP1 hD1
              replace hC_0 := FI.tr hC_0 xu_61I (by decide)
              replace hX_8 := FI.tr hX_8 xu_61I (by decide)
              refine W.widen (k := 0) (n := 0) (Nat.le_of_ble_eq_true rfl) (Nat.le_of_ble_eq_true rfl) ?_
              exact W.zret (v := r_u_61) hx hb hr (ow_nb (by omega)) (fun t ht9 hW => ⟨⟨r_u_61, (I61, J61, E61, B61), rfl, ⟨hI, hE, hC_0, (by omega)⟩, ⟨by rw [ht9]; exact hP, hD⟩⟩, hS.F ht9⟩) hS.2.2 dX6_readSweet_114
            · have q_62 : (I8 this 4).toInt = (16 : Int32).toInt := (ow_eq _ _).mp c_59
              refine lv_aload_n hx hb dX6_readSweet_42 rfl (lv_at hl 1 rfl) ?_
              refine cg_12_6_6 hx hb ht hown hK hN hP hthis.1 hthis.2 dX6_readSweet_43 ?_
              refine lv_istore_n (lv' := [(2, .int (I8 this 6)), (1, .int x1_8), (0, .ref this)]) hx hb dX6_readSweet_46 rfl hl (by decide) rfl (fun ls hl => ?_)
              refine lv_aload_n hx hb dX6_readSweet_47 rfl (lv_at hl 2 rfl) ?_
              refine cg_12_4_6 hx hb ht hown hK hN hP hthis.1 hthis.2 dX6_readSweet_48 ?_
              refine lv_bipush (v := 16) hx hb dX6_readSweet_51 (by decide) ?_
              refine lv_icmp_ne (tgt := 80) hx hb dX6_readSweet_53 (by decide) (fun c_63 => ?_) (fun c_63 => ?_)
              · have q_64 : ¬ (I8 this 4).toInt = (16 : Int32).toInt := by have := (not_congr (ow_eq _ _)).mp c_63; omega
                exfalso
                omega
              · have q_65 : (I8 this 4).toInt = (16 : Int32).toInt := (ow_eq _ _).mp c_63
                refine lv_iload_n hx hb dX6_readSweet_56 rfl (lv_at hl 0 rfl) ?_
                refine lv_bipush (v := 12) hx hb dX6_readSweet_57 (by decide) ?_
                refine lv_icmp_ge (tgt := 80) hx hb dX6_readSweet_59 (by decide) (fun c_66 => ?_) (fun c_66 => ?_)
                · have q_67 : (12 : Int32).toInt ≤ (I8 this 6).toInt := (ow_le _ _).mp c_66
                  refine lv_aload_n hx hb dX6_readSweet_80 rfl (lv_at hl 2 rfl) ?_
                  refine lv_iconst (v := 0) hx hb dX6_readSweet_81 (by decide) ?_
                  refine lv_bipush (v := 11) hx hb dX6_readSweet_82 (by decide) ?_
                  have hFc := fr_free hD hS hA
                  refine va_calli (va_runV (As := [.int 0, .int 11]) (rest := []) ⟨hx, hb, hml, hown, ht⟩ (r_takeNumber l G cy _ tq qq wq fo L K R T I8 E8 J8 B8 this (0) (11) hRT hI hE hthis.1 hthis.2) (cwV 2 ht (gv k_667 k_668 k_669 k_633 k_666) rfl rfl rfl (by decide +kernel) ⟨Nat.le_of_ble_eq_true rfl, Nat.le_of_ble_eq_true rfl⟩) ⟨EnX.blind, cr_12 hK hP hthis.1 hthis.2, fun U hU hW => ⟨rfl, En.of hU hW hP hK hD hN, XK.of hX hS hFc hU hW⟩⟩ rfl rfl hl.1 rfl (lv_room (Nat.le_of_ble_eq_true rfl)) dX6_readSweet_84 ⟨Nat.le_of_ble_eq_true rfl, Nat.le_of_ble_eq_true rfl⟩) hS (fun q _ h => hFc q h) hFc (fun r_u_68 u_68 t9 H locs ht9 hvm hw hB hz1 hk1 hS => ?_)
                  obtain ⟨I68, J68, E68, B68⟩ := u_68
                  obtain ⟨hP1, hD1⟩ := hB
                  rw [ht9] at hP1
                  clear hI hE
                  obtain ⟨hI, hE, xu_68I, wu_68⟩ := hw
                  dsimp only at hI hE xu_68I wu_68
                  have hP : va_P G vwCl (WC cy L K R I68 J68 E68 B68) H := hP1
                  have hD : va_D A (WC cy L K R I68 J68 E68 B68) := hD1.weaken (fun _ _ _ h => hFc _ h)
                  clear hFc hk1 hz1 hP1 hD1
                  replace hC_0 := FI.tr hC_0 xu_68I (by decide)
                  replace hX_8 := FI.tr hX_8 xu_68I (by decide)
                  replace wu_68 : (r_u_68.toInt = 0 ∨ r_u_68.toInt = 1) ∧ (r_u_68.toInt = 0 ∨ ((0 : Int32).toInt ≤ (I8 this 6).toInt ∧ (I8 this 6).toInt ≤ (11 : Int32).toInt ∧ ((I68 this 4).toInt ≠ 16 ∨ 0 ≤ (I68 this 6).toInt))) := by
                    have h9 : (r_u_68.toInt = 0 ∨ r_u_68.toInt = 1) ∧ (r_u_68.toInt = 0 ∨ ((0 : Int32).toInt ≤ (I8 this 6).toInt ∧ (I8 this 6).toInt ≤ (11 : Int32).toInt ∧ ((I68 this 4).toInt ≠ 16 ∨ 0 ≤ (I68 this 6).toInt))) := wu_68
                    exact h9
                  refine lv_if_ne (tgt := 92) hx hb dX6_readSweet_87 (by decide) (fun c_69 => ?_) (fun c_69 => ?_)
                  · have q_70 : ¬ r_u_68.toInt = (0 : Int32).toInt := by have := (not_congr (ow_eq _ _)).mp c_69; omega
                    refine lv_aload_n hx hb dX6_readSweet_92 rfl (lv_at hl 2 rfl) ?_
                    refine cg_12_2_6 hx hb ht hown hK hN hP hthis.1 hthis.2 dX6_readSweet_93 ?_
                    have hm_71 : (R this 2) ∈ L ∧ K (R this 2) = 1 := RT.o hRT hthis.1 hthis.2 2 (by decide)
                    refine cg_1_8_6 hx hb ht hown hK hN hP hm_71.1 hm_71.2 dX6_readSweet_96 ?_
                    have hm_72 : (R (R this 2) 8) ∈ L ∧ K (R (R this 2) 8) = 33 := RT.o hRT hm_71.1 hm_71.2 8 (by decide)
                    refine lv_iload_n hx hb dX6_readSweet_99 rfl (lv_at hl 0 rfl) ?_
                    refine lv_iconst (v := 1) hx hb dX6_readSweet_100 (by decide) ?_
                    have q_73 : vp_in (I8 this 6) 12 := vp_in_iff.mpr ⟨by omega, by omega⟩
                    refine cs_33 hx hb hK hP hD hS hm_72.1 hm_72.2 q_73 dX6_readSweet_101 (fun H locs hP hD hS => ?_)
                    replace hE := EV.up hE hm_72.2 (i := (Int32.toNatClampNeg (I8 this 6))) (ow_nz (1 : Int32))
                    generalize (va_up E68 (R (R this 2) 8) (upd (E68 (R (R this 2) 8)) (Int32.toNatClampNeg (I8 this 6)) (vp_nar .boolean 1))) = E_74 at hP hD hE
                    obtain ⟨v_75, ev_75⟩ : ∃ y : Int32, y = x1_8 + 1 := ⟨_, rfl⟩
                    refine lv_iinc (v := v_75) (lv' := [(1, .int v_75), (2, .int (I8 this 6)), (0, .ref this)]) hx hb dX6_readSweet_102 hl (k := 1) rfl (by rw [ev_75]; rfl) (by decide) rfl (fun ls hl => ?_)
                    have q_76 : v_75.toInt = x1_8.toInt + 1 := by have := ow_add ev_75 (by omega) (by omega); omega
                    refine lv_goto (tgt := 23) hx hb dX6_readSweet_105 (by decide) ?_
                    refine W.widen (k := 0) (n := 0) (Nat.le_of_ble_eq_true rfl) (Nat.le_of_ble_eq_true rfl) ?_
                    exact ih_8 v_75 I68 J68 E_74 B68 _ _ _ hI hE hX_8 (by omega) (show (I68 this 4).toInt ≠ 16 ∨ 0 ≤ (I68 this 6).toInt from by omega) (by omega) hP hD hS (lv_sub hl [0, 2] rfl)
                  · have q_77 : r_u_68.toInt = (0 : Int32).toInt := (ow_eq _ _).mp c_69
                    refine lv_iconst (v := 0) hx hb dX6_readSweet_90 (by decide) ?_
                    refine W.widen (k := 0) (n := 0) (Nat.le_of_ble_eq_true rfl) (Nat.le_of_ble_eq_true rfl) ?_
                    exact W.zret (v := 0) hx hb hr rfl (fun t ht9 hW => ⟨⟨0, (I68, J68, E68, B68), rfl, ⟨hI, hE, hC_0, (by omega)⟩, ⟨by rw [ht9]; exact hP, hD⟩⟩, hS.F ht9⟩) hS.2.2 dX6_readSweet_91
                · have q_78 : (I8 this 6).toInt < (12 : Int32).toInt := by have := (not_congr (ow_le _ _)).mp c_66; omega
                  refine lv_aload_n hx hb dX6_readSweet_62 rfl (lv_at hl 2 rfl) ?_
                  refine cg_12_2_6 hx hb ht hown hK hN hP hthis.1 hthis.2 dX6_readSweet_63 ?_
                  have hm_79 : (R this 2) ∈ L ∧ K (R this 2) = 1 := RT.o hRT hthis.1 hthis.2 2 (by decide)
                  refine cg_1_8_6 hx hb ht hown hK hN hP hm_79.1 hm_79.2 dX6_readSweet_66 ?_
                  have hm_80 : (R (R this 2) 8) ∈ L ∧ K (R (R this 2) 8) = 33 := RT.o hRT hm_79.1 hm_79.2 8 (by decide)
                  refine lv_iload_n hx hb dX6_readSweet_69 rfl (lv_at hl 0 rfl) ?_
                  have q_81 : vp_in (I8 this 6) 12 := vp_in_iff.mpr ⟨by omega, by omega⟩
                  refine cl_33 hx hb hK hP hm_80.1 hm_80.2 q_81 dX6_readSweet_70 ?_
                  refine lv_topi (fun v_82 ev_82 => ?_)
                  have q_83 : 0 ≤ v_82.toInt ∧ v_82.toInt ≤ 1 := by rw [ev_82]; exact EV.rd hE hm_80.1 hm_80.2 q_81
                  refine lv_if_eq (tgt := 80) hx hb dX6_readSweet_71 (by decide) (fun c_84 => ?_) (fun c_84 => ?_)
                  · have q_85 : v_82.toInt = (0 : Int32).toInt := (ow_eq _ _).mp c_84
                    refine lv_aload_n hx hb dX6_readSweet_80 rfl (lv_at hl 2 rfl) ?_
                    refine lv_iconst (v := 0) hx hb dX6_readSweet_81 (by decide) ?_
                    refine lv_bipush (v := 11) hx hb dX6_readSweet_82 (by decide) ?_
                    have hFc := fr_free hD hS hA
                    refine va_calli (va_runV (As := [.int 0, .int 11]) (rest := []) ⟨hx, hb, hml, hown, ht⟩ (r_takeNumber l G cy _ tq qq wq fo L K R T I8 E8 J8 B8 this (0) (11) hRT hI hE hthis.1 hthis.2) (cwV 2 ht (gv k_667 k_668 k_669 k_633 k_666) rfl rfl rfl (by decide +kernel) ⟨Nat.le_of_ble_eq_true rfl, Nat.le_of_ble_eq_true rfl⟩) ⟨EnX.blind, cr_12 hK hP hthis.1 hthis.2, fun U hU hW => ⟨rfl, En.of hU hW hP hK hD hN, XK.of hX hS hFc hU hW⟩⟩ rfl rfl hl.1 rfl (lv_room (Nat.le_of_ble_eq_true rfl)) dX6_readSweet_84 ⟨Nat.le_of_ble_eq_true rfl, Nat.le_of_ble_eq_true rfl⟩) hS (fun q _ h => hFc q h) hFc (fun r_u_86 u_86 t9 H locs ht9 hvm hw hB hz1 hk1 hS => ?_)
                    obtain ⟨I86, J86, E86, B86⟩ := u_86
                    obtain ⟨hP1, hD1⟩ := hB
                    rw [ht9] at hP1
                    clear hI hE
                    obtain ⟨hI, hE, xu_86I, wu_86⟩ := hw
                    dsimp only at hI hE xu_86I wu_86
                    have hP : va_P G vwCl (WC cy L K R I86 J86 E86 B86) H := hP1
                    have hD : va_D A (WC cy L K R I86 J86 E86 B86) := hD1.weaken (fun _ _ _ h => hFc _ h)
                    clear hFc hk1 hz1 hP1 hD1
                    replace hC_0 := FI.tr hC_0 xu_86I (by decide)
                    replace hX_8 := FI.tr hX_8 xu_86I (by decide)
                    replace wu_86 : (r_u_86.toInt = 0 ∨ r_u_86.toInt = 1) ∧ (r_u_86.toInt = 0 ∨ ((0 : Int32).toInt ≤ (I8 this 6).toInt ∧ (I8 this 6).toInt ≤ (11 : Int32).toInt ∧ ((I86 this 4).toInt ≠ 16 ∨ 0 ≤ (I86 this 6).toInt))) := by
                      have h9 : (r_u_86.toInt = 0 ∨ r_u_86.toInt = 1) ∧ (r_u_86.toInt = 0 ∨ ((0 : Int32).toInt ≤ (I8 this 6).toInt ∧ (I8 this 6).toInt ≤ (11 : Int32).toInt ∧ ((I86 this 4).toInt ≠ 16 ∨ 0 ≤ (I86 this 6).toInt))) := wu_86
                      exact h9
                    refine lv_if_ne (tgt := 92) hx hb dX6_readSweet_87 (by decide) (fun c_87 => ?_) (fun c_87 => ?_)
                    · have q_88 : ¬ r_u_86.toInt = (0 : Int32).toInt := by have := (not_congr (ow_eq _ _)).mp c_87; omega
                      refine lv_aload_n hx hb dX6_readSweet_92 rfl (lv_at hl 2 rfl) ?_
                      refine cg_12_2_6 hx hb ht hown hK hN hP hthis.1 hthis.2 dX6_readSweet_93 ?_
                      refine cg_1_8_6 hx hb ht hown hK hN hP hm_79.1 hm_79.2 dX6_readSweet_96 ?_
                      refine lv_iload_n hx hb dX6_readSweet_99 rfl (lv_at hl 0 rfl) ?_
                      refine lv_iconst (v := 1) hx hb dX6_readSweet_100 (by decide) ?_
                      have q_89 : vp_in (I8 this 6) 12 := vp_in_iff.mpr ⟨by omega, by omega⟩
                      refine cs_33 hx hb hK hP hD hS hm_80.1 hm_80.2 q_89 dX6_readSweet_101 (fun H locs hP hD hS => ?_)
                      replace hE := EV.up hE hm_80.2 (i := (Int32.toNatClampNeg (I8 this 6))) (ow_nz (1 : Int32))
                      generalize (va_up E86 (R (R this 2) 8) (upd (E86 (R (R this 2) 8)) (Int32.toNatClampNeg (I8 this 6)) (vp_nar .boolean 1))) = E_90 at hP hD hE
                      obtain ⟨v_91, ev_91⟩ : ∃ y : Int32, y = x1_8 + 1 := ⟨_, rfl⟩
                      refine lv_iinc (v := v_91) (lv' := [(1, .int v_91), (2, .int (I8 this 6)), (0, .ref this)]) hx hb dX6_readSweet_102 hl (k := 1) rfl (by rw [ev_91]; rfl) (by decide) rfl (fun ls hl => ?_)
                      have q_92 : v_91.toInt = x1_8.toInt + 1 := by have := ow_add ev_91 (by omega) (by omega); omega
                      refine lv_goto (tgt := 23) hx hb dX6_readSweet_105 (by decide) ?_
                      refine W.widen (k := 0) (n := 0) (Nat.le_of_ble_eq_true rfl) (Nat.le_of_ble_eq_true rfl) ?_
                      exact ih_8 v_91 I86 J86 E_90 B86 _ _ _ hI hE hX_8 (by omega) (show (I86 this 4).toInt ≠ 16 ∨ 0 ≤ (I86 this 6).toInt from by omega) (by omega) hP hD hS (lv_sub hl [0, 2] rfl)
                    · have q_93 : r_u_86.toInt = (0 : Int32).toInt := (ow_eq _ _).mp c_87
                      refine lv_iconst (v := 0) hx hb dX6_readSweet_90 (by decide) ?_
                      refine W.widen (k := 0) (n := 0) (Nat.le_of_ble_eq_true rfl) (Nat.le_of_ble_eq_true rfl) ?_
                      exact W.zret (v := 0) hx hb hr rfl (fun t ht9 hW => ⟨⟨0, (I86, J86, E86, B86), rfl, ⟨hI, hE, hC_0, (by omega)⟩, ⟨by rw [ht9]; exact hP, hD⟩⟩, hS.F ht9⟩) hS.2.2 dX6_readSweet_91
                  · have q_94 : ¬ v_82.toInt = (0 : Int32).toInt := by have := (not_congr (ow_eq _ _)).mp c_84; omega
                    refine lv_aload_n hx hb dX6_readSweet_74 rfl (lv_at hl 2 rfl) ?_
                    refine lv_iconst (v := 3) hx hb dX6_readSweet_75 (by decide) ?_
                    have hFc := fr_free hD hS hA
                    refine va_calli (va_runV (As := [.int 3]) (rest := []) ⟨hx, hb, hml, hown, ht⟩ (r_fail l G cy _ L K R T I8 E8 J8 B8 this (3) hRT hI hE hthis.1 hthis.2) (cwV 1 ht (gv k_655 k_656 k_657 k_633 k_654) rfl rfl rfl (by decide +kernel) ⟨Nat.le_of_ble_eq_true rfl, Nat.le_of_ble_eq_true rfl⟩) ⟨En.blind, cr_12 hK hP hthis.1 hthis.2, fun U hU hW => ⟨rfl, En.of hU hW hP hK hD hN⟩⟩ rfl rfl hl.1 rfl (lv_room (Nat.le_of_ble_eq_true rfl)) dX6_readSweet_76 ⟨Nat.le_of_ble_eq_true rfl, Nat.le_of_ble_eq_true rfl⟩) hS (fun q _ h => hFc q h) hFc (fun r_u_95 u_95 t9 H locs ht9 hvm hw hB hz1 hk1 hS => ?_)
                    obtain ⟨I95, J95, E95, B95⟩ := u_95
                    obtain ⟨hP1, hD1⟩ := hB
                    rw [ht9] at hP1
                    clear hI hE
                    obtain ⟨hI, hE, xu_95I, wu_95⟩ := hw
                    dsimp only at hI hE xu_95I wu_95
                    have hP : va_P G vwCl (WC cy L K R I95 J95 E95 B95) H := hP1
                    have hD : va_D A (WC cy L K R I95 J95 E95 B95) := hD1.weaken (fun _ _ _ h => hFc _ h)
                    clear hFc hk1 hz1 hP1 hD1
                    replace hC_0 := FI.tr hC_0 xu_95I (by decide)
                    replace hX_8 := FI.tr hX_8 xu_95I (by decide)
                    obtain rfl : r_u_95 = 0 := (ow_eq _ _).mpr (by omega)
                    refine W.widen (k := 0) (n := 0) (Nat.le_of_ble_eq_true rfl) (Nat.le_of_ble_eq_true rfl) ?_
                    exact W.zret (v := 0) hx hb hr rfl (fun t ht9 hW => ⟨⟨0, (I95, J95, E95, B95), rfl, ⟨hI, hE, hC_0, (by omega)⟩, ⟨by rw [ht9]; exact hP, hD⟩⟩, hS.F ht9⟩) hS.2.2 dX6_readSweet_79
    exact lp_8 _ (0) I7 J7 E7 B7 _ _ _ hI hE FI.rf (by omega) (show (I7 this 4).toInt ≠ 16 ∨ 0 ≤ (I7 this 6).toInt from by omega) (Nat.lt_succ_self _) hP hD hS (lv_sub hl [0, 1] rfl)
  · have q_96 : ¬ (I this 8).toInt = (0 : Int32).toInt := by have := (not_congr (ow_eq _ _)).mp c_2; omega
    refine lv_aload_n hx hb dX6_readSweet_7 rfl (lv_at hl 0 rfl) ?_
    have hFc := fr_free hD hS hA
    refine va_calli (va_runV (As := []) (rest := []) ⟨hx, hb, hml, hown, ht⟩ (r_refuse l G cy _ L K R T I E J B this hRT hI hE hthis.1 hthis.2) (cwV 0 ht (gv k_663 k_664 k_665 k_633 k_662) rfl rfl rfl (by decide +kernel) ⟨Nat.le_of_ble_eq_true rfl, Nat.le_of_ble_eq_true rfl⟩) ⟨En.blind, cr_12 hK hP hthis.1 hthis.2, fun U hU hW => ⟨rfl, En.of hU hW hP hK hD hN⟩⟩ rfl rfl hl.1 rfl (lv_room (Nat.le_of_ble_eq_true rfl)) dX6_readSweet_8 ⟨Nat.le_of_ble_eq_true rfl, Nat.le_of_ble_eq_true rfl⟩) hS (fun q _ h => hFc q h) hFc (fun r_u_97 u_97 t9 H locs ht9 hvm hw hB hz1 hk1 hS => ?_)
    obtain ⟨I97, J97, E97, B97⟩ := u_97
    obtain ⟨hP1, hD1⟩ := hB
    rw [ht9] at hP1
    clear hI hE
    obtain ⟨hI, hE, xu_97I, wu_97⟩ := hw
    dsimp only at hI hE xu_97I wu_97
    have hP : va_P G vwCl (WC cy L K R I97 J97 E97 B97) H := hP1
    have hD : va_D A (WC cy L K R I97 J97 E97 B97) := hD1.weaken (fun _ _ _ h => hFc _ h)
    clear hFc hk1 hz1 hP1 hD1
    replace hC_0 := FI.tr hC_0 xu_97I (by decide)
    obtain rfl : r_u_97 = 0 := (ow_eq _ _).mpr (by omega)
    refine W.widen (k := 0) (n := 0) (Nat.le_of_ble_eq_true rfl) (Nat.le_of_ble_eq_true rfl) ?_
    exact W.zret (v := 0) hx hb hr rfl (fun t ht9 hW => ⟨⟨0, (I97, J97, E97, B97), rfl, ⟨hI, hE, hC_0, (by omega)⟩, ⟨by rw [ht9]; exact hP, hD⟩⟩, hS.F ht9⟩) hS.2.2 dX6_readSweet_11
set_option maxHeartbeats 4000000 in
set_option maxRecDepth 100000 in
theorem r_sweeten (l : Launch) (G : va_G) (cy : Nat → ClassId) (sz : Nat) (tq qq wq : Nat) (fo : Option Nat) (L : List Nat) (K : Nat → Nat) (R : Nat → Nat → Nat) (T : Int) (I E : Nat → Nat → Int32) (J B : Nat → Nat → Int64) (this : Nat)  (hRT : RT L K R) (hI : IV T L K I) (hE : EV L K E) (hthis1 : this ∈ L) (hthis2 : K this = 1) : Met l yX9_sweetenUntold (.code yX9_sweetenUntold cX9_sweetenUntold 2 none :: TBg) ({ frames := 1, cells := 0, slots := 0, locals := 64 }) (va_Pc [.ref this] (EnX G cy (WC cy L K R I J E B) sz tq qq wq fo (va_A (WC cy L K R I J E B) sz))) (va_Qv (fun (u : (Nat → Nat → Int32) × (Nat → Nat → Int64) × (Nat → Nat → Int32) × (Nat → Nat → Int64)) => IV T L K u.1 ∧ EV L K u.2.2.1 ∧ FI [] K I u.1 ∧ (True)) (fun u t => Ex G (va_A (WC cy L K R I J E B) sz) (WC cy L K R u.1 u.2.1 u.2.2.1 u.2.2.2) t) (va_A (WC cy L K R I J E B) sz)) 0 0 (va_A (WC cy L K R I J E B) sz) := by
  have hthis : this ∈ L ∧ K this = 1 := ⟨hthis1, hthis2⟩
  refine Met.ofW (cc := cX9_sweetenUntold) (maxL := 2) (ret := none) (by decide) rfl ?_
  intro p e s m args below meth c s₁ B9 hml hv9
  obtain ⟨rfl, ⟨hsz, hP, hK, hD0, hN⟩, hX⟩ := hv9
  have hx := B9.exec
  have hb := B9.bytes
  have hr := B9.returns
  have hts := atoms_spec (ws := .code yX9_sweetenUntold cX9_sweetenUntold 2 none :: TBg) B9.pre
  have ht : ∀ w ∈ TBg, w.before _ s = true := fun w h => hts w (List.mem_cons_of_mem _ h)
  have hown : s.vm.findClass RX9 = some m.cls := findClass_of_methodNamed B9.named
  have hlocks := B9.notSynchronized
  subst hsz
  have hD := hD0.self (sz := s.heap.size)
  generalize hAe : va_A (WC cy L K R I J E B) s.heap.size = A at hD hX ⊢
  have hA : ∀ q : Nat, s.heap.size ≤ q → A q := fun q h => by rw [← hAe]; exact Or.inr h
  have hS : va_S A s.heap s.heap [] := va_S.rf
  have hl := lv_entry ([.ref this]) (n := 2) (Nat.le_of_ble_eq_true rfl)
  rw [lg_entry_eq]
  generalize (lg_sl ([.ref this]) ++ List.replicate (2 - (lg_sl ([.ref this])).length) Slot.unset).toArray = ls at hl ⊢
  have hl : lv_has ls 2 [(0, .ref this)] := hl
  have z0 : (0 : Int32).toInt = 0 := by decide
  have z1 : (1 : Int32).toInt = 1 := by decide
  have z2 : (6 : Int32).toInt = 6 := by decide
  have hC_0 : FI [] K I I := FI.rf
  refine lv_iconst (v := 0) hx hb dX9_sweetenUntold_0 (by decide) ?_
  refine lv_istore_n (lv' := [(1, .int 0), (0, .ref this)]) hx hb dX9_sweetenUntold_1 rfl hl (by decide) rfl (fun ls hl => ?_)
  refine W.widen (k := 0) (n := 0) (Nat.le_of_ble_eq_true rfl) (Nat.le_of_ble_eq_true rfl) ?_
  have lp_1 : ∀ (N_1 : Nat) (x1_1 : Int32) (I1 : Nat → Nat → Int32) (J1 : Nat → Nat → Int64) (E1 : Nat → Nat → Int32) (B1 : Nat → Nat → Int64) (H : Heap) (locs : List Loc) (ls : Array Slot), IV T L K I1 → EV L K E1 → FI [] K I I1 → (0 ≤ x1_1.toInt ∧ x1_1.toInt ≤ 6) → (6 - x1_1.toInt).toNat < N_1 → va_P G vwCl (WC cy L K R I1 J1 E1 B1) H → va_D A (WC cy L K R I1 J1 E1 B1) → va_S A s.heap H locs → lv_has ls 2 [(1, .int x1_1), (0, .ref this)] → W p l e (headSpec (.code yX9_sweetenUntold cX9_sweetenUntold 2 none :: TBg) ({ frames := 1, cells := 0, slots := 0, locals := 64 })).room s m ([.ref this] : List Value).toArray below meth c H locs 0 0 (MQ below (va_Qv (fun (u : (Nat → Nat → Int32) × (Nat → Nat → Int64) × (Nat → Nat → Int32) × (Nat → Nat → Int64)) => IV T L K u.1 ∧ EV L K u.2.2.1 ∧ FI [] K I u.1 ∧ (True)) (fun u t => Ex G A (WC cy L K R u.1 u.2.1 u.2.2.1 u.2.2.2) t) A) ([.ref this] : List Value).toArray s 0 0 A) (F0 m 2 ls []) := by
    intro N_1
    induction N_1 with
    | zero => intro x1_1 I1 J1 E1 B1 H locs ls hI hE hC_1 qf1_0 hm9 hP hD hS hl; exact absurd hm9 (Nat.not_lt_zero _)
    | succ N_1 ih_1 =>
      intro x1_1 I1 J1 E1 B1 H locs ls hI hE hC_1 qf1_0 hm9 hP hD hS hl
      replace hC_0 := FI.tr hC_0 hC_1 (by decide)
      have hX_1 := hC_1
      refine lv_iload_n hx hb dX9_sweetenUntold_2 rfl (lv_at hl 0 rfl) ?_
      refine va_gets (C := "TuneLocks$Town") (n := "SWEET_UNTOLD") (d := "[I") hx hb hX.1.1 hS hown (ht _ k_683) (fun _ h9 => h9) dX9_sweetenUntold_3 ?_
      refine va_tlen (v := 6) hx hb hX.1.2 hS rfl dX9_sweetenUntold_6 ?_
      refine lv_icmp_ge (tgt := 27) hx hb dX9_sweetenUntold_7 (by decide) (fun c_2 => ?_) (fun c_2 => ?_)
      · have q_3 : (6 : Int32).toInt ≤ x1_1.toInt := (ow_le _ _).mp c_2
        refine W.widen (k := 0) (n := 0) (Nat.le_of_ble_eq_true rfl) (Nat.le_of_ble_eq_true rfl) ?_
        exact W.vret hx hb hr (fun t ht9 hW => ⟨⟨(I1, J1, E1, B1), rfl, ⟨hI, hE, hC_0, trivial⟩, ⟨by rw [ht9]; exact hP, hD⟩⟩, hS.F ht9⟩) hS.2.2 dX9_sweetenUntold_27
      · have q_4 : x1_1.toInt < (6 : Int32).toInt := by have := (not_congr (ow_le _ _)).mp c_2; omega
        refine lv_aload_n hx hb dX9_sweetenUntold_10 rfl (lv_at hl 1 rfl) ?_
        refine cg_1_8_9 hx hb ht hown hK hN hP hthis.1 hthis.2 dX9_sweetenUntold_11 ?_
        have hm_5 : (R this 8) ∈ L ∧ K (R this 8) = 33 := RT.o hRT hthis.1 hthis.2 8 (by decide)
        refine va_gets (C := "TuneLocks$Town") (n := "SWEET_UNTOLD") (d := "[I") hx hb hX.1.1 hS hown (ht _ k_683) (fun _ h9 => h9) dX9_sweetenUntold_14 ?_
        refine lv_iload_n hx hb dX9_sweetenUntold_17 rfl (lv_at hl 0 rfl) ?_
        have q_6 : vp_in x1_1 6 := vp_in_iff.mpr ⟨by omega, by omega⟩
        obtain ⟨v_7, ev_7, qv_7⟩ := sw_rg (Int32.toNatClampNeg x1_1)
        refine va_ti (v := .int v_7) hx hb hX.1.2 hS q_6 ev_7 dX9_sweetenUntold_18 ?_
        refine lv_iconst (v := 1) hx hb dX9_sweetenUntold_19 (by decide) ?_
        have q_8 : vp_in v_7 12 := vp_in_iff.mpr ⟨by omega, by omega⟩
        refine cs_33 hx hb hK hP hD hS hm_5.1 hm_5.2 q_8 dX9_sweetenUntold_20 (fun H locs hP hD hS => ?_)
        replace hE := EV.up hE hm_5.2 (i := (Int32.toNatClampNeg v_7)) (ow_nz (1 : Int32))
        generalize (va_up E1 (R this 8) (upd (E1 (R this 8)) (Int32.toNatClampNeg v_7) (vp_nar .boolean 1))) = E_9 at hP hD hE
        obtain ⟨v_10, ev_10⟩ : ∃ y : Int32, y = x1_1 + 1 := ⟨_, rfl⟩
        refine lv_iinc (v := v_10) (lv' := [(1, .int v_10), (0, .ref this)]) hx hb dX9_sweetenUntold_21 hl (k := 0) rfl (by rw [ev_10]; rfl) (by decide) rfl (fun ls hl => ?_)
        have q_11 : v_10.toInt = x1_1.toInt + 1 := by have := ow_add ev_10 (by omega) (by omega); omega
        refine lv_goto (tgt := 2) hx hb dX9_sweetenUntold_24 (by decide) ?_
        refine W.widen (k := 0) (n := 0) (Nat.le_of_ble_eq_true rfl) (Nat.le_of_ble_eq_true rfl) ?_
        exact ih_1 v_10 I1 J1 E_9 B1 _ _ _ hI hE hX_1 (by omega) (by omega) hP hD hS (lv_sub hl [0, 1] rfl)
  exact lp_1 _ (0) I J E B _ _ _ hI hE FI.rf (by omega) (Nat.lt_succ_self _) hP hD hS (lv_sub hl [0, 1] rfl)
