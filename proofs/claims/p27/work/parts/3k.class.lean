theorem k_740 : (Cond.methodLink RX3 64 Lib.Math.min.name) ∈ TBg := tb_mem 849 (by decide +kernel) (by decide +kernel)
theorem k_741 : (Cond.methodLink RX3 70 yX8_offOfFirst) ∈ TBg := tb_mem 850 (by decide +kernel) (by decide +kernel)
theorem k_742 : (Cond.methodLink RX3 60 yX9_isIn) ∈ TBg := tb_mem 845 (by decide +kernel) (by decide +kernel)
theorem k_743 : (Cond.methodLink RX3 74 arraycopyName) ∈ TBg := tb_mem 854 (by decide +kernel) (by decide +kernel)
theorem k_744 : (Cond.code yX3_layNext cX3_layNext 6 none) ∈ TBg := tb_mem 853 (by decide +kernel) (by decide +kernel)
theorem k_745 : (Cond.methodLink RX3 56 yX3_layNext) ∈ TBg := tb_mem 851 (by decide +kernel) (by decide +kernel)
theorem k_746 : (Cond.static yX3_layNext) ∈ TBg := tb_mem 852 (by decide +kernel) (by decide +kernel)
theorem k_747 : (Cond.initialized RX3) ∈ TBg := tb_mem 94 (by decide +kernel) (by decide +kernel)
theorem k_748 : (Cond.code yX3_overlap cX3_overlap 3 (some .int)) ∈ TBg := tb_mem 848 (by decide +kernel) (by decide +kernel)
theorem k_749 : (Cond.methodLink RX3 52 yX3_overlap) ∈ TBg := tb_mem 846 (by decide +kernel) (by decide +kernel)
theorem k_750 : (Cond.static yX3_overlap) ∈ TBg := tb_mem 847 (by decide +kernel) (by decide +kernel)
theorem k_751 : (Cond.code yX3_isLeftOut cX3_isLeftOut 5 (some .boolean)) ∈ TBg := tb_mem 844 (by decide +kernel) (by decide +kernel)
theorem k_752 : (Cond.methodLink RX3 41 yX3_isLeftOut) ∈ TBg := tb_mem 842 (by decide +kernel) (by decide +kernel)
theorem k_753 : (Cond.static yX3_isLeftOut) ∈ TBg := tb_mem 843 (by decide +kernel) (by decide +kernel)
theorem k_754 : (Cond.code yX3_lay cX3_lay 5 none) ∈ TBg := tb_mem 841 (by decide +kernel) (by decide +kernel)
theorem k_755 : (Cond.methodLink RX11 182 yX3_lay) ∈ TBg := tb_mem 838 (by decide +kernel) (by decide +kernel)
theorem k_756 : (Cond.instanceMethod yX3_lay) ∈ TBg := tb_mem 839 (by decide +kernel) (by decide +kernel)
theorem k_757 : (Cond.selects RX3 yX3_lay yX3_lay) ∈ TBg := tb_mem 840 (by decide +kernel) (by decide +kernel)
theorem k_758 : (Cond.code yX3_laidAt cX3_laidAt 2 (some .int)) ∈ TBg := tb_mem 864 (by decide +kernel) (by decide +kernel)
theorem k_759 : (Cond.methodLink RX11 190 yX3_laidAt) ∈ TBg := tb_mem 861 (by decide +kernel) (by decide +kernel)
theorem k_760 : (Cond.instanceMethod yX3_laidAt) ∈ TBg := tb_mem 862 (by decide +kernel) (by decide +kernel)
theorem k_761 : (Cond.selects RX3 yX3_laidAt yX3_laidAt) ∈ TBg := tb_mem 863 (by decide +kernel) (by decide +kernel)
theorem k_762 : (Cond.code yX3_fewestNotes cX3_fewestNotes 1 (some .int)) ∈ TBg := tb_mem 860 (by decide +kernel) (by decide +kernel)
theorem k_763 : (Cond.methodLink RX11 186 yX3_fewestNotes) ∈ TBg := tb_mem 857 (by decide +kernel) (by decide +kernel)
theorem k_764 : (Cond.instanceMethod yX3_fewestNotes) ∈ TBg := tb_mem 858 (by decide +kernel) (by decide +kernel)
theorem k_765 : (Cond.selects RX3 yX3_fewestNotes yX3_fewestNotes) ∈ TBg := tb_mem 859 (by decide +kernel) (by decide +kernel)
theorem dX3_fewestNotes_0 : decode cX3_fewestNotes 0 = .ok (.aload_n 0, 1) := by decide +kernel
theorem dX3_fewestNotes_1 : decode cX3_fewestNotes 1 = .ok (.getfield 29, 3) := by decide +kernel
theorem dX3_fewestNotes_4 : decode cX3_fewestNotes 4 = .ok (.ireturn, 1) := by decide +kernel
theorem dX3_laidAt_0 : decode cX3_laidAt 0 = .ok (.iload_n 1, 1) := by decide +kernel
theorem dX3_laidAt_1 : decode cX3_laidAt 1 = .ok (.ifCond .lt 25, 3) := by decide +kernel
theorem dX3_laidAt_26 : decode cX3_laidAt 26 = .ok (.iconst (-1), 1) := by decide +kernel
theorem dX3_laidAt_27 : decode cX3_laidAt 27 = .ok (.ireturn, 1) := by decide +kernel
theorem dX3_laidAt_4 : decode cX3_laidAt 4 = .ok (.iload_n 1, 1) := by decide +kernel
theorem dX3_laidAt_5 : decode cX3_laidAt 5 = .ok (.aload_n 0, 1) := by decide +kernel
theorem dX3_laidAt_6 : decode cX3_laidAt 6 = .ok (.getfield 33, 3) := by decide +kernel
theorem dX3_laidAt_9 : decode cX3_laidAt 9 = .ok (.if_icmp .ge 17, 3) := by decide +kernel
theorem dX3_laidAt_12 : decode cX3_laidAt 12 = .ok (.aload_n 0, 1) := by decide +kernel
theorem dX3_laidAt_13 : decode cX3_laidAt 13 = .ok (.getfield 9, 3) := by decide +kernel
theorem dX3_laidAt_16 : decode cX3_laidAt 16 = .ok (.aload_n 0, 1) := by decide +kernel
theorem dX3_laidAt_17 : decode cX3_laidAt 17 = .ok (.getfield 26, 3) := by decide +kernel
theorem dX3_laidAt_20 : decode cX3_laidAt 20 = .ok (.iload_n 1, 1) := by decide +kernel
theorem dX3_laidAt_21 : decode cX3_laidAt 21 = .ok (.iaload, 1) := by decide +kernel
theorem dX3_laidAt_22 : decode cX3_laidAt 22 = .ok (.iaload, 1) := by decide +kernel
theorem dX3_laidAt_23 : decode cX3_laidAt 23 = .ok (.goto 4, 3) := by decide +kernel
theorem dX3_overlap_0 : decode cX3_overlap 0 = .ok (.aload_n 0, 1) := by decide +kernel
theorem dX3_overlap_1 : decode cX3_overlap 1 = .ok (.getfield 49, 3) := by decide +kernel
theorem dX3_overlap_4 : decode cX3_overlap 4 = .ok (.aload_n 1, 1) := by decide +kernel
theorem dX3_overlap_5 : decode cX3_overlap 5 = .ok (.getfield 49, 3) := by decide +kernel
theorem dX3_overlap_8 : decode cX3_overlap 8 = .ok (.invokestatic 64, 3) := by decide +kernel
theorem dX3_overlap_11 : decode cX3_overlap 11 = .ok (.istore_n 2, 1) := by decide +kernel
theorem dX3_overlap_12 : decode cX3_overlap 12 = .ok (.iload_n 2, 1) := by decide +kernel
theorem dX3_overlap_13 : decode cX3_overlap 13 = .ok (.ifCond .le 26, 3) := by decide +kernel
theorem dX3_overlap_39 : decode cX3_overlap 39 = .ok (.iconst 0, 1) := by decide +kernel
theorem dX3_overlap_40 : decode cX3_overlap 40 = .ok (.ireturn, 1) := by decide +kernel
theorem dX3_overlap_16 : decode cX3_overlap 16 = .ok (.aload_n 1, 1) := by decide +kernel
theorem dX3_overlap_17 : decode cX3_overlap 17 = .ok (.iload_n 2, 1) := by decide +kernel
theorem dX3_overlap_18 : decode cX3_overlap 18 = .ok (.aload_n 0, 1) := by decide +kernel
theorem dX3_overlap_19 : decode cX3_overlap 19 = .ok (.aload_n 0, 1) := by decide +kernel
theorem dX3_overlap_20 : decode cX3_overlap 20 = .ok (.getfield 49, 3) := by decide +kernel
theorem dX3_overlap_23 : decode cX3_overlap 23 = .ok (.iload_n 2, 1) := by decide +kernel
theorem dX3_overlap_24 : decode cX3_overlap 24 = .ok (.isub, 1) := by decide +kernel
theorem dX3_overlap_25 : decode cX3_overlap 25 = .ok (.invokevirtual 70, 3) := by decide +kernel
theorem dX3_overlap_28 : decode cX3_overlap 28 = .ok (.ifCond .ne 5, 3) := by decide +kernel
theorem dX3_overlap_33 : decode cX3_overlap 33 = .ok (.iinc 2 (-1), 3) := by decide +kernel
theorem dX3_overlap_36 : decode cX3_overlap 36 = .ok (.goto (-24), 3) := by decide +kernel
theorem dX3_overlap_31 : decode cX3_overlap 31 = .ok (.iload_n 2, 1) := by decide +kernel
theorem dX3_overlap_32 : decode cX3_overlap 32 = .ok (.ireturn, 1) := by decide +kernel
theorem dX3_isLeftOut_0 : decode cX3_isLeftOut 0 = .ok (.iconst 0, 1) := by decide +kernel
theorem dX3_isLeftOut_1 : decode cX3_isLeftOut 1 = .ok (.istore_n 3, 1) := by decide +kernel
theorem dX3_isLeftOut_2 : decode cX3_isLeftOut 2 = .ok (.iload_n 3, 1) := by decide +kernel
theorem dX3_isLeftOut_3 : decode cX3_isLeftOut 3 = .ok (.aload_n 0, 1) := by decide +kernel
theorem dX3_isLeftOut_4 : decode cX3_isLeftOut 4 = .ok (.getfield 36, 3) := by decide +kernel
theorem dX3_isLeftOut_7 : decode cX3_isLeftOut 7 = .ok (.if_icmp .ge 61, 3) := by decide +kernel
theorem dX3_isLeftOut_68 : decode cX3_isLeftOut 68 = .ok (.iconst 0, 1) := by decide +kernel
theorem dX3_isLeftOut_69 : decode cX3_isLeftOut 69 = .ok (.ireturn, 1) := by decide +kernel
theorem dX3_isLeftOut_28 : decode cX3_isLeftOut 28 = .ok (.istore 4, 2) := by decide +kernel
theorem dX3_isLeftOut_30 : decode cX3_isLeftOut 30 = .ok (.iload 4, 2) := by decide +kernel
theorem dX3_isLeftOut_32 : decode cX3_isLeftOut 32 = .ok (.ifCond .eq 30, 3) := by decide +kernel
theorem dX3_isLeftOut_62 : decode cX3_isLeftOut 62 = .ok (.iinc 3 1, 3) := by decide +kernel
theorem dX3_isLeftOut_65 : decode cX3_isLeftOut 65 = .ok (.goto (-63), 3) := by decide +kernel
theorem dX3_isLeftOut_35 : decode cX3_isLeftOut 35 = .ok (.aload_n 0, 1) := by decide +kernel
theorem dX3_isLeftOut_36 : decode cX3_isLeftOut 36 = .ok (.iload_n 2, 1) := by decide +kernel
theorem dX3_isLeftOut_37 : decode cX3_isLeftOut 37 = .ok (.iload_n 3, 1) := by decide +kernel
theorem dX3_isLeftOut_38 : decode cX3_isLeftOut 38 = .ok (.iconst 0, 1) := by decide +kernel
theorem dX3_isLeftOut_39 : decode cX3_isLeftOut 39 = .ok (.invokevirtual 60, 3) := by decide +kernel
theorem dX3_isLeftOut_42 : decode cX3_isLeftOut 42 = .ok (.ifCond .eq 20, 3) := by decide +kernel
theorem dX3_isLeftOut_45 : decode cX3_isLeftOut 45 = .ok (.iload_n 3, 1) := by decide +kernel
theorem dX3_isLeftOut_46 : decode cX3_isLeftOut 46 = .ok (.iload_n 2, 1) := by decide +kernel
theorem dX3_isLeftOut_47 : decode cX3_isLeftOut 47 = .ok (.if_icmp .lt 13, 3) := by decide +kernel
theorem dX3_isLeftOut_60 : decode cX3_isLeftOut 60 = .ok (.iconst 1, 1) := by decide +kernel
theorem dX3_isLeftOut_61 : decode cX3_isLeftOut 61 = .ok (.ireturn, 1) := by decide +kernel
theorem dX3_isLeftOut_50 : decode cX3_isLeftOut 50 = .ok (.aload_n 0, 1) := by decide +kernel
theorem dX3_isLeftOut_51 : decode cX3_isLeftOut 51 = .ok (.iload_n 3, 1) := by decide +kernel
theorem dX3_isLeftOut_52 : decode cX3_isLeftOut 52 = .ok (.iload_n 2, 1) := by decide +kernel
theorem dX3_isLeftOut_53 : decode cX3_isLeftOut 53 = .ok (.iconst 0, 1) := by decide +kernel
theorem dX3_isLeftOut_54 : decode cX3_isLeftOut 54 = .ok (.invokevirtual 60, 3) := by decide +kernel
theorem dX3_isLeftOut_57 : decode cX3_isLeftOut 57 = .ok (.ifCond .ne 5, 3) := by decide +kernel
theorem dX3_isLeftOut_10 : decode cX3_isLeftOut 10 = .ok (.iload_n 3, 1) := by decide +kernel
theorem dX3_isLeftOut_11 : decode cX3_isLeftOut 11 = .ok (.iload_n 2, 1) := by decide +kernel
theorem dX3_isLeftOut_12 : decode cX3_isLeftOut 12 = .ok (.if_icmp .eq 15, 3) := by decide +kernel
theorem dX3_isLeftOut_27 : decode cX3_isLeftOut 27 = .ok (.iconst 0, 1) := by decide +kernel
theorem dX3_isLeftOut_15 : decode cX3_isLeftOut 15 = .ok (.iload_n 1, 1) := by decide +kernel
theorem dX3_isLeftOut_16 : decode cX3_isLeftOut 16 = .ok (.iload_n 3, 1) := by decide +kernel
theorem dX3_isLeftOut_17 : decode cX3_isLeftOut 17 = .ok (.ishr, 1) := by decide +kernel
theorem dX3_isLeftOut_18 : decode cX3_isLeftOut 18 = .ok (.iconst 1, 1) := by decide +kernel
theorem dX3_isLeftOut_19 : decode cX3_isLeftOut 19 = .ok (.iand, 1) := by decide +kernel
theorem dX3_isLeftOut_20 : decode cX3_isLeftOut 20 = .ok (.ifCond .eq 7, 3) := by decide +kernel
theorem dX3_isLeftOut_23 : decode cX3_isLeftOut 23 = .ok (.iconst 1, 1) := by decide +kernel
theorem dX3_isLeftOut_24 : decode cX3_isLeftOut 24 = .ok (.goto 4, 3) := by decide +kernel
theorem dX3_layNext_0 : decode cX3_layNext 0 = .ok (.iload_n 3, 1) := by decide +kernel
theorem dX3_layNext_1 : decode cX3_layNext 1 = .ok (.aload_n 0, 1) := by decide +kernel
theorem dX3_layNext_2 : decode cX3_layNext 2 = .ok (.getfield 29, 3) := by decide +kernel
theorem dX3_layNext_5 : decode cX3_layNext 5 = .ok (.if_icmp .lt 4, 3) := by decide +kernel
theorem dX3_layNext_9 : decode cX3_layNext 9 = .ok (.iload_n 1, 1) := by decide +kernel
theorem dX3_layNext_10 : decode cX3_layNext 10 = .ok (.aload_n 0, 1) := by decide +kernel
theorem dX3_layNext_11 : decode cX3_layNext 11 = .ok (.getfield 33, 3) := by decide +kernel
theorem dX3_layNext_14 : decode cX3_layNext 14 = .ok (.if_icmp .ge 9, 3) := by decide +kernel
theorem dX3_layNext_23 : decode cX3_layNext 23 = .ok (.aload_n 0, 1) := by decide +kernel
theorem dX3_layNext_24 : decode cX3_layNext 24 = .ok (.iload_n 3, 1) := by decide +kernel
theorem dX3_layNext_25 : decode cX3_layNext 25 = .ok (.putfield 29, 3) := by decide +kernel
theorem dX3_layNext_28 : decode cX3_layNext 28 = .ok (.aload_n 0, 1) := by decide +kernel
theorem dX3_layNext_29 : decode cX3_layNext 29 = .ok (.getfield 23, 3) := by decide +kernel
theorem dX3_layNext_32 : decode cX3_layNext 32 = .ok (.iconst 0, 1) := by decide +kernel
theorem dX3_layNext_33 : decode cX3_layNext 33 = .ok (.aload_n 0, 1) := by decide +kernel
theorem dX3_layNext_34 : decode cX3_layNext 34 = .ok (.getfield 26, 3) := by decide +kernel
theorem dX3_layNext_37 : decode cX3_layNext 37 = .ok (.iconst 0, 1) := by decide +kernel
theorem dX3_layNext_38 : decode cX3_layNext 38 = .ok (.bipush 6, 2) := by decide +kernel
theorem dX3_layNext_40 : decode cX3_layNext 40 = .ok (.invokestatic 74, 3) := by decide +kernel
theorem dX3_layNext_43 : decode cX3_layNext 43 = .ok (.return_, 1) := by decide +kernel
theorem dX3_layNext_8 : decode cX3_layNext 8 = .ok (.return_, 1) := by decide +kernel
theorem dX3_layNext_17 : decode cX3_layNext 17 = .ok (.iload_n 1, 1) := by decide +kernel
theorem dX3_layNext_18 : decode cX3_layNext 18 = .ok (.bipush 6, 2) := by decide +kernel
theorem dX3_layNext_20 : decode cX3_layNext 20 = .ok (.if_icmp .lt 24, 3) := by decide +kernel
theorem dX3_layNext_44 : decode cX3_layNext 44 = .ok (.iconst 0, 1) := by decide +kernel
theorem dX3_layNext_45 : decode cX3_layNext 45 = .ok (.istore 4, 2) := by decide +kernel
theorem dX3_layNext_47 : decode cX3_layNext 47 = .ok (.iload 4, 2) := by decide +kernel
theorem dX3_layNext_49 : decode cX3_layNext 49 = .ok (.aload_n 0, 1) := by decide +kernel
theorem dX3_layNext_50 : decode cX3_layNext 50 = .ok (.getfield 33, 3) := by decide +kernel
theorem dX3_layNext_53 : decode cX3_layNext 53 = .ok (.if_icmp .ge 77, 3) := by decide +kernel
theorem dX3_layNext_130 : decode cX3_layNext 130 = .ok (.return_, 1) := by decide +kernel
theorem dX3_layNext_56 : decode cX3_layNext 56 = .ok (.iload_n 2, 1) := by decide +kernel
theorem dX3_layNext_57 : decode cX3_layNext 57 = .ok (.iload 4, 2) := by decide +kernel
theorem dX3_layNext_59 : decode cX3_layNext 59 = .ok (.ishr, 1) := by decide +kernel
theorem dX3_layNext_60 : decode cX3_layNext 60 = .ok (.iconst 1, 1) := by decide +kernel
theorem dX3_layNext_61 : decode cX3_layNext 61 = .ok (.iand, 1) := by decide +kernel
theorem dX3_layNext_62 : decode cX3_layNext 62 = .ok (.ifCond .ne 62, 3) := by decide +kernel
theorem dX3_layNext_124 : decode cX3_layNext 124 = .ok (.iinc 4 1, 3) := by decide +kernel
theorem dX3_layNext_127 : decode cX3_layNext 127 = .ok (.goto (-80), 3) := by decide +kernel
theorem dX3_layNext_65 : decode cX3_layNext 65 = .ok (.iload_n 1, 1) := by decide +kernel
theorem dX3_layNext_66 : decode cX3_layNext 66 = .ok (.ifCond .ne 7, 3) := by decide +kernel
theorem dX3_layNext_73 : decode cX3_layNext 73 = .ok (.aload_n 0, 1) := by decide +kernel
theorem dX3_layNext_74 : decode cX3_layNext 74 = .ok (.getfield 20, 3) := by decide +kernel
theorem dX3_layNext_77 : decode cX3_layNext 77 = .ok (.aload_n 0, 1) := by decide +kernel
theorem dX3_layNext_78 : decode cX3_layNext 78 = .ok (.getfield 23, 3) := by decide +kernel
theorem dX3_layNext_81 : decode cX3_layNext 81 = .ok (.iload_n 1, 1) := by decide +kernel
theorem dX3_layNext_82 : decode cX3_layNext 82 = .ok (.iconst 1, 1) := by decide +kernel
theorem dX3_layNext_83 : decode cX3_layNext 83 = .ok (.isub, 1) := by decide +kernel
theorem dX3_layNext_84 : decode cX3_layNext 84 = .ok (.iaload, 1) := by decide +kernel
theorem dX3_layNext_85 : decode cX3_layNext 85 = .ok (.aaload, 1) := by decide +kernel
theorem dX3_layNext_86 : decode cX3_layNext 86 = .ok (.iload 4, 2) := by decide +kernel
theorem dX3_layNext_88 : decode cX3_layNext 88 = .ok (.iaload, 1) := by decide +kernel
theorem dX3_layNext_89 : decode cX3_layNext 89 = .ok (.istore 5, 2) := by decide +kernel
theorem dX3_layNext_91 : decode cX3_layNext 91 = .ok (.aload_n 0, 1) := by decide +kernel
theorem dX3_layNext_92 : decode cX3_layNext 92 = .ok (.getfield 23, 3) := by decide +kernel
theorem dX3_layNext_95 : decode cX3_layNext 95 = .ok (.iload_n 1, 1) := by decide +kernel
theorem dX3_layNext_96 : decode cX3_layNext 96 = .ok (.iload 4, 2) := by decide +kernel
theorem dX3_layNext_98 : decode cX3_layNext 98 = .ok (.iastore, 1) := by decide +kernel
theorem dX3_layNext_99 : decode cX3_layNext 99 = .ok (.aload_n 0, 1) := by decide +kernel
theorem dX3_layNext_100 : decode cX3_layNext 100 = .ok (.iload_n 1, 1) := by decide +kernel
theorem dX3_layNext_101 : decode cX3_layNext 101 = .ok (.iconst 1, 1) := by decide +kernel
theorem dX3_layNext_102 : decode cX3_layNext 102 = .ok (.iadd, 1) := by decide +kernel
theorem dX3_layNext_103 : decode cX3_layNext 103 = .ok (.iload_n 2, 1) := by decide +kernel
theorem dX3_layNext_104 : decode cX3_layNext 104 = .ok (.iconst 1, 1) := by decide +kernel
theorem dX3_layNext_105 : decode cX3_layNext 105 = .ok (.iload 4, 2) := by decide +kernel
theorem dX3_layNext_107 : decode cX3_layNext 107 = .ok (.ishl, 1) := by decide +kernel
theorem dX3_layNext_108 : decode cX3_layNext 108 = .ok (.ior, 1) := by decide +kernel
theorem dX3_layNext_109 : decode cX3_layNext 109 = .ok (.iload_n 3, 1) := by decide +kernel
theorem dX3_layNext_110 : decode cX3_layNext 110 = .ok (.aload_n 0, 1) := by decide +kernel
theorem dX3_layNext_111 : decode cX3_layNext 111 = .ok (.getfield 15, 3) := by decide +kernel
theorem dX3_layNext_114 : decode cX3_layNext 114 = .ok (.iload 4, 2) := by decide +kernel
theorem dX3_layNext_116 : decode cX3_layNext 116 = .ok (.iaload, 1) := by decide +kernel
theorem dX3_layNext_117 : decode cX3_layNext 117 = .ok (.iadd, 1) := by decide +kernel
theorem dX3_layNext_118 : decode cX3_layNext 118 = .ok (.iload 5, 2) := by decide +kernel
theorem dX3_layNext_120 : decode cX3_layNext 120 = .ok (.isub, 1) := by decide +kernel
theorem dX3_layNext_121 : decode cX3_layNext 121 = .ok (.invokestatic 56, 3) := by decide +kernel
theorem dX3_layNext_69 : decode cX3_layNext 69 = .ok (.iconst 0, 1) := by decide +kernel
theorem dX3_layNext_70 : decode cX3_layNext 70 = .ok (.goto 19, 3) := by decide +kernel
theorem dX3_lay_0 : decode cX3_lay 0 = .ok (.aload_n 0, 1) := by decide +kernel
theorem dX3_lay_1 : decode cX3_lay 1 = .ok (.iconst 0, 1) := by decide +kernel
theorem dX3_lay_2 : decode cX3_lay 2 = .ok (.putfield 33, 3) := by decide +kernel
theorem dX3_lay_5 : decode cX3_lay 5 = .ok (.iconst 0, 1) := by decide +kernel
theorem dX3_lay_6 : decode cX3_lay 6 = .ok (.istore_n 3, 1) := by decide +kernel
theorem dX3_lay_7 : decode cX3_lay 7 = .ok (.iload_n 3, 1) := by decide +kernel
theorem dX3_lay_8 : decode cX3_lay 8 = .ok (.aload_n 1, 1) := by decide +kernel
theorem dX3_lay_9 : decode cX3_lay 9 = .ok (.getfield 36, 3) := by decide +kernel
theorem dX3_lay_12 : decode cX3_lay 12 = .ok (.if_icmp .ge 73, 3) := by decide +kernel
theorem dX3_lay_85 : decode cX3_lay 85 = .ok (.iconst 0, 1) := by decide +kernel
theorem dX3_lay_86 : decode cX3_lay 86 = .ok (.istore_n 3, 1) := by decide +kernel
theorem dX3_lay_87 : decode cX3_lay 87 = .ok (.iload_n 3, 1) := by decide +kernel
theorem dX3_lay_88 : decode cX3_lay 88 = .ok (.aload_n 0, 1) := by decide +kernel
theorem dX3_lay_89 : decode cX3_lay 89 = .ok (.getfield 33, 3) := by decide +kernel
theorem dX3_lay_92 : decode cX3_lay 92 = .ok (.if_icmp .ge 62, 3) := by decide +kernel
theorem dX3_lay_154 : decode cX3_lay 154 = .ok (.aload_n 0, 1) := by decide +kernel
theorem dX3_lay_155 : decode cX3_lay 155 = .ok (.bipush 73, 2) := by decide +kernel
theorem dX3_lay_157 : decode cX3_lay 157 = .ok (.putfield 29, 3) := by decide +kernel
theorem dX3_lay_160 : decode cX3_lay 160 = .ok (.aload_n 0, 1) := by decide +kernel
theorem dX3_lay_161 : decode cX3_lay 161 = .ok (.iconst 0, 1) := by decide +kernel
theorem dX3_lay_162 : decode cX3_lay 162 = .ok (.iconst 0, 1) := by decide +kernel
theorem dX3_lay_163 : decode cX3_lay 163 = .ok (.iconst 0, 1) := by decide +kernel
theorem dX3_lay_164 : decode cX3_lay 164 = .ok (.invokestatic 56, 3) := by decide +kernel
theorem dX3_lay_167 : decode cX3_lay 167 = .ok (.return_, 1) := by decide +kernel
theorem dX3_lay_95 : decode cX3_lay 95 = .ok (.iconst 0, 1) := by decide +kernel
theorem dX3_lay_96 : decode cX3_lay 96 = .ok (.istore 4, 2) := by decide +kernel
theorem dX3_lay_98 : decode cX3_lay 98 = .ok (.iload 4, 2) := by decide +kernel
theorem dX3_lay_100 : decode cX3_lay 100 = .ok (.aload_n 0, 1) := by decide +kernel
theorem dX3_lay_101 : decode cX3_lay 101 = .ok (.getfield 33, 3) := by decide +kernel
theorem dX3_lay_104 : decode cX3_lay 104 = .ok (.if_icmp .ge 44, 3) := by decide +kernel
theorem dX3_lay_148 : decode cX3_lay 148 = .ok (.iinc 3 1, 3) := by decide +kernel
theorem dX3_lay_151 : decode cX3_lay 151 = .ok (.goto (-64), 3) := by decide +kernel
theorem dX3_lay_107 : decode cX3_lay 107 = .ok (.aload_n 0, 1) := by decide +kernel
theorem dX3_lay_108 : decode cX3_lay 108 = .ok (.getfield 20, 3) := by decide +kernel
theorem dX3_lay_111 : decode cX3_lay 111 = .ok (.iload_n 3, 1) := by decide +kernel
theorem dX3_lay_112 : decode cX3_lay 112 = .ok (.aaload, 1) := by decide +kernel
theorem dX3_lay_113 : decode cX3_lay 113 = .ok (.iload 4, 2) := by decide +kernel
theorem dX3_lay_115 : decode cX3_lay 115 = .ok (.aload_n 1, 1) := by decide +kernel
theorem dX3_lay_116 : decode cX3_lay 116 = .ok (.getfield 45, 3) := by decide +kernel
theorem dX3_lay_119 : decode cX3_lay 119 = .ok (.aload_n 0, 1) := by decide +kernel
theorem dX3_lay_120 : decode cX3_lay 120 = .ok (.getfield 9, 3) := by decide +kernel
theorem dX3_lay_123 : decode cX3_lay 123 = .ok (.iload_n 3, 1) := by decide +kernel
theorem dX3_lay_124 : decode cX3_lay 124 = .ok (.iaload, 1) := by decide +kernel
theorem dX3_lay_125 : decode cX3_lay 125 = .ok (.aaload, 1) := by decide +kernel
theorem dX3_lay_126 : decode cX3_lay 126 = .ok (.aload_n 1, 1) := by decide +kernel
theorem dX3_lay_127 : decode cX3_lay 127 = .ok (.getfield 45, 3) := by decide +kernel
theorem dX3_lay_130 : decode cX3_lay 130 = .ok (.aload_n 0, 1) := by decide +kernel
theorem dX3_lay_131 : decode cX3_lay 131 = .ok (.getfield 9, 3) := by decide +kernel
theorem dX3_lay_134 : decode cX3_lay 134 = .ok (.iload 4, 2) := by decide +kernel
theorem dX3_lay_136 : decode cX3_lay 136 = .ok (.iaload, 1) := by decide +kernel
theorem dX3_lay_137 : decode cX3_lay 137 = .ok (.aaload, 1) := by decide +kernel
theorem dX3_lay_138 : decode cX3_lay 138 = .ok (.invokestatic 52, 3) := by decide +kernel
theorem dX3_lay_141 : decode cX3_lay 141 = .ok (.iastore, 1) := by decide +kernel
theorem dX3_lay_142 : decode cX3_lay 142 = .ok (.iinc 4 1, 3) := by decide +kernel
theorem dX3_lay_145 : decode cX3_lay 145 = .ok (.goto (-47), 3) := by decide +kernel
theorem dX3_lay_15 : decode cX3_lay 15 = .ok (.aload_n 0, 1) := by decide +kernel
theorem dX3_lay_16 : decode cX3_lay 16 = .ok (.getfield 33, 3) := by decide +kernel
theorem dX3_lay_19 : decode cX3_lay 19 = .ok (.bipush 6, 2) := by decide +kernel
theorem dX3_lay_21 : decode cX3_lay 21 = .ok (.if_icmp .ge 64, 3) := by decide +kernel
theorem dX3_lay_24 : decode cX3_lay 24 = .ok (.iload_n 2, 1) := by decide +kernel
theorem dX3_lay_25 : decode cX3_lay 25 = .ok (.iload_n 3, 1) := by decide +kernel
theorem dX3_lay_26 : decode cX3_lay 26 = .ok (.ishr, 1) := by decide +kernel
theorem dX3_lay_27 : decode cX3_lay 27 = .ok (.iconst 1, 1) := by decide +kernel
theorem dX3_lay_28 : decode cX3_lay 28 = .ok (.iand, 1) := by decide +kernel
theorem dX3_lay_29 : decode cX3_lay 29 = .ok (.ifCond .eq 50, 3) := by decide +kernel
theorem dX3_lay_79 : decode cX3_lay 79 = .ok (.iinc 3 1, 3) := by decide +kernel
theorem dX3_lay_82 : decode cX3_lay 82 = .ok (.goto (-75), 3) := by decide +kernel
theorem dX3_lay_32 : decode cX3_lay 32 = .ok (.aload_n 1, 1) := by decide +kernel
theorem dX3_lay_33 : decode cX3_lay 33 = .ok (.iload_n 2, 1) := by decide +kernel
theorem dX3_lay_34 : decode cX3_lay 34 = .ok (.iload_n 3, 1) := by decide +kernel
theorem dX3_lay_35 : decode cX3_lay 35 = .ok (.invokestatic 41, 3) := by decide +kernel
theorem dX3_lay_38 : decode cX3_lay 38 = .ok (.ifCond .ne 41, 3) := by decide +kernel
theorem dX3_lay_41 : decode cX3_lay 41 = .ok (.aload_n 0, 1) := by decide +kernel
theorem dX3_lay_42 : decode cX3_lay 42 = .ok (.getfield 9, 3) := by decide +kernel
theorem dX3_lay_45 : decode cX3_lay 45 = .ok (.aload_n 0, 1) := by decide +kernel
theorem dX3_lay_46 : decode cX3_lay 46 = .ok (.getfield 33, 3) := by decide +kernel
theorem dX3_lay_49 : decode cX3_lay 49 = .ok (.iload_n 3, 1) := by decide +kernel
theorem dX3_lay_50 : decode cX3_lay 50 = .ok (.iastore, 1) := by decide +kernel
theorem dX3_lay_51 : decode cX3_lay 51 = .ok (.aload_n 0, 1) := by decide +kernel
theorem dX3_lay_52 : decode cX3_lay 52 = .ok (.getfield 15, 3) := by decide +kernel
theorem dX3_lay_55 : decode cX3_lay 55 = .ok (.aload_n 0, 1) := by decide +kernel
theorem dX3_lay_56 : decode cX3_lay 56 = .ok (.getfield 33, 3) := by decide +kernel
theorem dX3_lay_59 : decode cX3_lay 59 = .ok (.aload_n 1, 1) := by decide +kernel
theorem dX3_lay_60 : decode cX3_lay 60 = .ok (.getfield 45, 3) := by decide +kernel
theorem dX3_lay_63 : decode cX3_lay 63 = .ok (.iload_n 3, 1) := by decide +kernel
theorem dX3_lay_64 : decode cX3_lay 64 = .ok (.aaload, 1) := by decide +kernel
theorem dX3_lay_65 : decode cX3_lay 65 = .ok (.getfield 49, 3) := by decide +kernel
theorem dX3_lay_68 : decode cX3_lay 68 = .ok (.iastore, 1) := by decide +kernel
theorem dX3_lay_69 : decode cX3_lay 69 = .ok (.aload_n 0, 1) := by decide +kernel
theorem dX3_lay_70 : decode cX3_lay 70 = .ok (.dup, 1) := by decide +kernel
theorem dX3_lay_71 : decode cX3_lay 71 = .ok (.getfield 33, 3) := by decide +kernel
theorem dX3_lay_74 : decode cX3_lay 74 = .ok (.iconst 1, 1) := by decide +kernel
theorem dX3_lay_75 : decode cX3_lay 75 = .ok (.iadd, 1) := by decide +kernel
theorem dX3_lay_76 : decode cX3_lay 76 = .ok (.putfield 33, 3) := by decide +kernel
theorem dX11_master_0 : decode cX11_master 0 = .ok (.iload_n 1, 1) := by decide +kernel
theorem dX11_master_1 : decode cX11_master 1 = .ok (.ifCond .lt 26, 3) := by decide +kernel
theorem dX11_master_27 : decode cX11_master 27 = .ok (.iconst (-1), 1) := by decide +kernel
theorem dX11_master_28 : decode cX11_master 28 = .ok (.ireturn, 1) := by decide +kernel
theorem dX11_master_4 : decode cX11_master 4 = .ok (.iload_n 1, 1) := by decide +kernel
theorem dX11_master_5 : decode cX11_master 5 = .ok (.iconst 1, 1) := by decide +kernel
theorem dX11_master_6 : decode cX11_master 6 = .ok (.aload_n 0, 1) := by decide +kernel
theorem dX11_master_7 : decode cX11_master 7 = .ok (.getfield 16, 3) := by decide +kernel
theorem dX11_master_10 : decode cX11_master 10 = .ok (.getfield 170, 3) := by decide +kernel
theorem dX11_master_13 : decode cX11_master 13 = .ok (.ishl, 1) := by decide +kernel
theorem dX11_master_14 : decode cX11_master 14 = .ok (.if_icmp .ge 13, 3) := by decide +kernel
theorem dX11_master_17 : decode cX11_master 17 = .ok (.iload_n 2, 1) := by decide +kernel
theorem dX11_master_18 : decode cX11_master 18 = .ok (.ifCond .lt 9, 3) := by decide +kernel
theorem dX11_master_21 : decode cX11_master 21 = .ok (.iload_n 2, 1) := by decide +kernel
theorem dX11_master_22 : decode cX11_master 22 = .ok (.bipush 6, 2) := by decide +kernel
theorem dX11_master_24 : decode cX11_master 24 = .ok (.if_icmp .le 5, 3) := by decide +kernel
theorem dX11_master_29 : decode cX11_master 29 = .ok (.iload_n 1, 1) := by decide +kernel
theorem dX11_master_30 : decode cX11_master 30 = .ok (.invokestatic 177, 3) := by decide +kernel
theorem dX11_master_33 : decode cX11_master 33 = .ok (.bipush 6, 2) := by decide +kernel
theorem dX11_master_35 : decode cX11_master 35 = .ok (.if_icmp .le 6, 3) := by decide +kernel
theorem dX11_master_41 : decode cX11_master 41 = .ok (.aload_n 0, 1) := by decide +kernel
theorem dX11_master_42 : decode cX11_master 42 = .ok (.getfield 62, 3) := by decide +kernel
theorem dX11_master_45 : decode cX11_master 45 = .ok (.aload_n 0, 1) := by decide +kernel
theorem dX11_master_46 : decode cX11_master 46 = .ok (.getfield 16, 3) := by decide +kernel
theorem dX11_master_49 : decode cX11_master 49 = .ok (.iload_n 1, 1) := by decide +kernel
theorem dX11_master_50 : decode cX11_master 50 = .ok (.invokevirtual 182, 3) := by decide +kernel
theorem dX11_master_53 : decode cX11_master 53 = .ok (.iload_n 2, 1) := by decide +kernel
theorem dX11_master_54 : decode cX11_master 54 = .ok (.ifCond .ne 13, 3) := by decide +kernel
theorem dX11_master_67 : decode cX11_master 67 = .ok (.aload_n 0, 1) := by decide +kernel
theorem dX11_master_68 : decode cX11_master 68 = .ok (.getfield 62, 3) := by decide +kernel
theorem dX11_master_71 : decode cX11_master 71 = .ok (.iload_n 2, 1) := by decide +kernel
theorem dX11_master_72 : decode cX11_master 72 = .ok (.iconst 1, 1) := by decide +kernel
theorem dX11_master_73 : decode cX11_master 73 = .ok (.isub, 1) := by decide +kernel
theorem dX11_master_74 : decode cX11_master 74 = .ok (.invokevirtual 190, 3) := by decide +kernel
theorem dX11_master_77 : decode cX11_master 77 = .ok (.ireturn, 1) := by decide +kernel
theorem dX11_master_57 : decode cX11_master 57 = .ok (.aload_n 0, 1) := by decide +kernel
theorem dX11_master_58 : decode cX11_master 58 = .ok (.getfield 62, 3) := by decide +kernel
theorem dX11_master_61 : decode cX11_master 61 = .ok (.invokevirtual 186, 3) := by decide +kernel
theorem dX11_master_64 : decode cX11_master 64 = .ok (.goto 13, 3) := by decide +kernel
theorem dX11_master_38 : decode cX11_master 38 = .ok (.bipush (-2), 2) := by decide +kernel
theorem dX11_master_40 : decode cX11_master 40 = .ok (.ireturn, 1) := by decide +kernel
theorem cl_42 {p : Program} {l : Launch} {e : Env} {R9 : Room} {s : State} {m : MethodId} {args : Array Value} {below : List Frame} {meth : Method} {c : Code} {H : Heap} {locs : List Loc} {cells slots : Nat} {Q : State → Prop} {cc : ByteArray} {pc : Nat} {ls : Array Slot} {rest : List Value} {G : va_G} {cy : Nat → ClassId} {L : List Nat} {K : Nat → Nat} {R : Nat → Nat → Nat} {I E : Nat → Nat → Int32} {J B : Nat → Nat → Int64} {z : Nat} {i : Int32} (hx : p.tables.exec = Jvm.exec) (hb : c.code = cc) (h8 : ArrOfT s (cy 8) (.array .int)) (hP : va_P G vwCl (WC cy L K R I J E B) H) (hz : z ∈ L) (hk : K z = 42) (hin : vp_in i 6) (hdg : decode cc pc = .ok (.aaload, 1)) (kk : W p l e R9 s m args below meth c H locs cells slots Q (F0 m (pc + 1) ls (.ref (R z i.toNatClampNeg) :: rest))) : W p l e R9 s m args below meth c H locs cells slots Q (F0 m pc ls (.int i :: .ref z :: rest)) := by
  obtain ⟨q0, he⟩ := wc_at (cy := cy) (R := R) (I := I) (J := J) (E := E) (B := B) (e9 := .inl (cy 8, 6, .inr (.inr (.inr (.inr (fun n9 => some (R z n9))))))) hz hk rfl
  have hlt : i.toNatClampNeg < 6 := Nat.not_le.mp fun q => hin (Or.inr q)
  exact W.aald (v := va_rf (some (R z i.toNatClampNeg))) (ty := .array .int) hx hb (hP q0 _ he) (h8 6 (fun j => va_rf (some (R z j)))) rfl (fun q => by cases q) (by show ¬ (i < 0 ∨ (arrV _ _ _).slots.size ≤ _); rw [arrV_size]; exact hin) (by show (arrV _ _ _).slots[_]? = _; rw [arrV_read _ _ hlt]) rfl rfl hdg kk
set_option maxHeartbeats 4000000 in
set_option maxRecDepth 100000 in
theorem l_few (l : Launch) (G : va_G) (cy : Nat → ClassId) (sz : Nat) (L : List Nat) (K : Nat → Nat) (R : Nat → Nat → Nat) (T : Int) (I E : Nat → Nat → Int32) (J B : Nat → Nat → Int64) (this : Nat)  (hRT : RT L K R) (hI : IV T L K I) (hE : EV L K E) (hthis1 : this ∈ L) (hthis2 : K this = 10) : Met l yX3_fewestNotes (.code yX3_fewestNotes cX3_fewestNotes 1 (some .int) :: TBg) ({ frames := 1, cells := 0, slots := 0, locals := 64 }) (va_Pc [.ref this] (En G cy (WC cy L K R I J E B) sz)) (va_Qi (fun (r : Int32) (_ : Unit) => True) (fun _ _ => True) (va_A [] sz)) 0 0 (va_A [] sz) := by
  have hthis : this ∈ L ∧ K this = 10 := ⟨hthis1, hthis2⟩
  refine Met.ofW (cc := cX3_fewestNotes) (maxL := 1) (ret := (some .int)) (by decide) rfl ?_
  intro p e s m args below meth c s₁ B9 hml hv9
  obtain ⟨rfl, hsz, hP, hK, hD0, hN⟩ := hv9
  have hx := B9.exec
  have hb := B9.bytes
  have hr := B9.returns
  have hts := atoms_spec (ws := .code yX3_fewestNotes cX3_fewestNotes 1 (some .int) :: TBg) B9.pre
  have ht : ∀ w ∈ TBg, w.before _ s = true := fun w h => hts w (List.mem_cons_of_mem _ h)
  have hown : s.vm.findClass RX3 = some m.cls := findClass_of_methodNamed B9.named
  have hlocks := B9.notSynchronized
  subst hsz
  generalize hAe : va_A [] s.heap.size = A at ⊢
  have hA : ∀ q : Nat, s.heap.size ≤ q → A q := fun q h => by rw [← hAe]; exact Or.inr h
  have hS : va_S A s.heap s.heap [] := va_S.rf
  have hl := lv_entry ([.ref this]) (n := 1) (Nat.le_of_ble_eq_true rfl)
  rw [lg_entry_eq]
  generalize (lg_sl ([.ref this]) ++ List.replicate (1 - (lg_sl ([.ref this])).length) Slot.unset).toArray = ls at hl ⊢
  have hl : lv_has ls 1 [(0, .ref this)] := hl
  refine lv_aload_n hx hb dX3_fewestNotes_0 rfl (lv_at hl 0 rfl) ?_
  refine cg_10_6_3 hx hb ht hown hK hN hP hthis.1 hthis.2 dX3_fewestNotes_1 ?_
  refine W.widen (k := 0) (n := 0) (Nat.le_of_ble_eq_true rfl) (Nat.le_of_ble_eq_true rfl) ?_
  exact W.iret (v := (I this 6)) hx hb hr (fun t ht9 hW => ⟨⟨(I this 6), (), rfl, trivial, trivial⟩, hS.F ht9⟩) hS.2.2 dX3_fewestNotes_4
set_option maxHeartbeats 4000000 in
set_option maxRecDepth 100000 in
theorem l_laidAt (l : Launch) (G : va_G) (cy : Nat → ClassId) (sz : Nat) (L : List Nat) (K : Nat → Nat) (R : Nat → Nat → Nat) (T : Int) (I E : Nat → Nat → Int32) (J B : Nat → Nat → Int64) (this : Nat) (n : Int32) (hRT : RT L K R) (hI : IV T L K I) (hE : EV L K E) (hthis1 : this ∈ L) (hthis2 : K this = 10) : Met l yX3_laidAt (.code yX3_laidAt cX3_laidAt 2 (some .int) :: TBg) ({ frames := 1, cells := 0, slots := 0, locals := 64 }) (va_Pc [.ref this, .int n] (En G cy (WC cy L K R I J E B) sz)) (va_Qi (fun (r : Int32) (_ : Unit) => True) (fun _ _ => True) (va_A [] sz)) 0 0 (va_A [] sz) := by
  have hthis : this ∈ L ∧ K this = 10 := ⟨hthis1, hthis2⟩
  refine Met.ofW (cc := cX3_laidAt) (maxL := 2) (ret := (some .int)) (by decide) rfl ?_
  intro p e s m args below meth c s₁ B9 hml hv9
  obtain ⟨rfl, hsz, hP, hK, hD0, hN⟩ := hv9
  have hx := B9.exec
  have hb := B9.bytes
  have hr := B9.returns
  have hts := atoms_spec (ws := .code yX3_laidAt cX3_laidAt 2 (some .int) :: TBg) B9.pre
  have ht : ∀ w ∈ TBg, w.before _ s = true := fun w h => hts w (List.mem_cons_of_mem _ h)
  have hown : s.vm.findClass RX3 = some m.cls := findClass_of_methodNamed B9.named
  have hlocks := B9.notSynchronized
  subst hsz
  generalize hAe : va_A [] s.heap.size = A at ⊢
  have hA : ∀ q : Nat, s.heap.size ≤ q → A q := fun q h => by rw [← hAe]; exact Or.inr h
  have hS : va_S A s.heap s.heap [] := va_S.rf
  have hl := lv_entry ([.ref this, .int n]) (n := 2) (Nat.le_of_ble_eq_true rfl)
  rw [lg_entry_eq]
  generalize (lg_sl ([.ref this, .int n]) ++ List.replicate (2 - (lg_sl ([.ref this, .int n])).length) Slot.unset).toArray = ls at hl ⊢
  have hl : lv_has ls 2 [(0, .ref this), (1, .int n)] := hl
  have z0 : (-1 : Int32).toInt = -1 := by decide
  have z1 : (0 : Int32).toInt = 0 := by decide
  refine lv_iload_n hx hb dX3_laidAt_0 rfl (lv_at hl 1 rfl) ?_
  refine lv_if_lt (tgt := 26) hx hb dX3_laidAt_1 (by decide) (fun c_1 => ?_) (fun c_1 => ?_)
  · have q_2 : n.toInt < (0 : Int32).toInt := (ow_lt _ _).mp c_1
    refine lv_iconst (v := (-1)) hx hb dX3_laidAt_26 (by decide) ?_
    refine W.widen (k := 0) (n := 0) (Nat.le_of_ble_eq_true rfl) (Nat.le_of_ble_eq_true rfl) ?_
    exact W.iret (v := (-1)) hx hb hr (fun t ht9 hW => ⟨⟨(-1), (), rfl, trivial, trivial⟩, hS.F ht9⟩) hS.2.2 dX3_laidAt_27
  · have q_3 : (0 : Int32).toInt ≤ n.toInt := by have := (not_congr (ow_lt _ _)).mp c_1; omega
    refine lv_iload_n hx hb dX3_laidAt_4 rfl (lv_at hl 1 rfl) ?_
    refine lv_aload_n hx hb dX3_laidAt_5 rfl (lv_at hl 0 rfl) ?_
    refine cg_10_2_3 hx hb ht hown hK hN hP hthis.1 hthis.2 dX3_laidAt_6 ?_
    have q_4 : 0 ≤ (I this 2).toInt ∧ (I this 2).toInt ≤ 6 := IV.rd hI hthis.1 hthis.2 2
    refine lv_icmp_ge (tgt := 26) hx hb dX3_laidAt_9 (by decide) (fun c_5 => ?_) (fun c_5 => ?_)
    · have q_6 : (I this 2).toInt ≤ n.toInt := (ow_le _ _).mp c_5
      refine lv_iconst (v := (-1)) hx hb dX3_laidAt_26 (by decide) ?_
      refine W.widen (k := 0) (n := 0) (Nat.le_of_ble_eq_true rfl) (Nat.le_of_ble_eq_true rfl) ?_
      exact W.iret (v := (-1)) hx hb hr (fun t ht9 hW => ⟨⟨(-1), (), rfl, trivial, trivial⟩, hS.F ht9⟩) hS.2.2 dX3_laidAt_27
    · have q_7 : n.toInt < (I this 2).toInt := by have := (not_congr (ow_le _ _)).mp c_5; omega
      refine lv_aload_n hx hb dX3_laidAt_12 rfl (lv_at hl 0 rfl) ?_
      refine cg_10_0_3 hx hb ht hown hK hN hP hthis.1 hthis.2 dX3_laidAt_13 ?_
      have hm_8 : (R this 0) ∈ L ∧ K (R this 0) = 40 := RT.o hRT hthis.1 hthis.2 0 (by decide)
      refine lv_aload_n hx hb dX3_laidAt_16 rfl (lv_at hl 0 rfl) ?_
      refine cg_10_5_3 hx hb ht hown hK hN hP hthis.1 hthis.2 dX3_laidAt_17 ?_
      have hm_9 : (R this 5) ∈ L ∧ K (R this 5) = 45 := RT.o hRT hthis.1 hthis.2 5 (by decide)
      refine lv_iload_n hx hb dX3_laidAt_20 rfl (lv_at hl 1 rfl) ?_
      have q_10 : vp_in n 6 := vp_in_iff.mpr ⟨by omega, by omega⟩
      refine cl_45 hx hb hK hP hm_9.1 hm_9.2 q_10 dX3_laidAt_21 ?_
      refine lv_topi (fun v_11 ev_11 => ?_)
      have q_12 : 0 ≤ v_11.toInt ∧ v_11.toInt ≤ 5 := by rw [ev_11]; exact EV.rd hE hm_9.1 hm_9.2 q_10
      have q_13 : vp_in v_11 6 := vp_in_iff.mpr ⟨by omega, by omega⟩
      refine cl_40 hx hb hK hP hm_8.1 hm_8.2 q_13 dX3_laidAt_22 ?_
      refine lv_topi (fun v_14 ev_14 => ?_)
      have q_15 : 0 ≤ v_14.toInt ∧ v_14.toInt ≤ 13 := by rw [ev_14]; exact EV.rd hE hm_8.1 hm_8.2 q_13
      refine lv_goto (tgt := 27) hx hb dX3_laidAt_23 (by decide) ?_
      refine W.widen (k := 0) (n := 0) (Nat.le_of_ble_eq_true rfl) (Nat.le_of_ble_eq_true rfl) ?_
      exact W.iret (v := v_14) hx hb hr (fun t ht9 hW => ⟨⟨v_14, (), rfl, trivial, trivial⟩, hS.F ht9⟩) hS.2.2 dX3_laidAt_27
set_option maxHeartbeats 4000000 in
set_option maxRecDepth 100000 in
theorem l_over (l : Launch) (G : va_G) (cy : Nat → ClassId) (sz : Nat) (L : List Nat) (K : Nat → Nat) (R : Nat → Nat → Nat) (T : Int) (I E : Nat → Nat → Int32) (J B : Nat → Nat → Int64) (ahead : Nat) (behind : Nat) (hRT : RT L K R) (hI : IV T L K I) (hE : EV L K E) (h_ahead1 : ahead ∈ L) (h_ahead2 : K ahead = 2) (h_behind1 : behind ∈ L) (h_behind2 : K behind = 2) : Met l yX3_overlap (.code yX3_overlap cX3_overlap 3 (some .int) :: TBg) ({ frames := 3, cells := 0, slots := 0, locals := 192 }) (va_Pc [.ref ahead, .ref behind] (En G cy (WC cy L K R I J E B) sz)) (va_Qi (fun (r : Int32) (_ : Unit) => True) (fun _ _ => True) (va_A [] sz)) 0 0 (va_A [] sz) := by
  have h_ahead : ahead ∈ L ∧ K ahead = 2 := ⟨h_ahead1, h_ahead2⟩
  have h_behind : behind ∈ L ∧ K behind = 2 := ⟨h_behind1, h_behind2⟩
  refine Met.ofW (cc := cX3_overlap) (maxL := 3) (ret := (some .int)) (by decide) rfl ?_
  intro p e s m args below meth c s₁ B9 hml hv9
  obtain ⟨rfl, hsz, hP, hK, hD0, hN⟩ := hv9
  have hx := B9.exec
  have hb := B9.bytes
  have hr := B9.returns
  have hts := atoms_spec (ws := .code yX3_overlap cX3_overlap 3 (some .int) :: TBg) B9.pre
  have ht : ∀ w ∈ TBg, w.before _ s = true := fun w h => hts w (List.mem_cons_of_mem _ h)
  have hown : s.vm.findClass RX3 = some m.cls := findClass_of_methodNamed B9.named
  have hlocks := B9.notSynchronized
  subst hsz
  generalize hAe : va_A [] s.heap.size = A at ⊢
  have hA : ∀ q : Nat, s.heap.size ≤ q → A q := fun q h => by rw [← hAe]; exact Or.inr h
  have hS : va_S A s.heap s.heap [] := va_S.rf
  have hl := lv_entry ([.ref ahead, .ref behind]) (n := 3) (Nat.le_of_ble_eq_true rfl)
  rw [lg_entry_eq]
  generalize (lg_sl ([.ref ahead, .ref behind]) ++ List.replicate (3 - (lg_sl ([.ref ahead, .ref behind])).length) Slot.unset).toArray = ls at hl ⊢
  have hl : lv_has ls 3 [(0, .ref ahead), (1, .ref behind)] := hl
  have z0 : (-1 : Int32).toInt = -1 := by decide
  have z1 : (0 : Int32).toInt = 0 := by decide
  refine lv_aload_n hx hb dX3_overlap_0 rfl (lv_at hl 0 rfl) ?_
  refine cg_2_2_3 hx hb ht hown hK hN hP h_ahead.1 h_ahead.2 dX3_overlap_1 ?_
  have q_1 : 0 ≤ (I ahead 2).toInt ∧ (I ahead 2).toInt ≤ 12 := IV.rd hI h_ahead.1 h_ahead.2 2
  refine lv_aload_n hx hb dX3_overlap_4 rfl (lv_at hl 1 rfl) ?_
  refine cg_2_2_3 hx hb ht hown hK hN hP h_behind.1 h_behind.2 dX3_overlap_5 ?_
  have q_2 : 0 ≤ (I behind 2).toInt ∧ (I behind 2).toInt ≤ 12 := IV.rd hI h_behind.1 h_behind.2 2
  refine va_mmin hx hb (by rw [hml]; exact hl.1.symm) hown (ht _ k_740) (ht _ k_417) (ht _ k_402) (ht _ k_418) (Nat.le_of_ble_eq_true rfl) (Nat.le_of_ble_eq_true rfl) (Nat.le_of_ble_eq_true rfl) (Nat.le_of_ble_eq_true rfl) dX3_overlap_8 ?_
  refine lv_topi (fun v_3 ev_3 => ?_)
  have q_4 : v_3.toInt ≤ (I ahead 2).toInt ∧ v_3.toInt ≤ (I behind 2).toInt ∧ (v_3.toInt = (I ahead 2).toInt ∨ v_3.toInt = (I behind 2).toInt) := ow_mmin ev_3
  refine lv_istore_n (lv' := [(2, .int v_3), (0, .ref ahead), (1, .ref behind)]) hx hb dX3_overlap_11 rfl hl (by decide) rfl (fun ls hl => ?_)
  refine W.widen (k := 0) (n := 0) (Nat.le_of_ble_eq_true rfl) (Nat.le_of_ble_eq_true rfl) ?_
  have lp_5 : ∀ (N_5 : Nat) (x2_5 : Int32) (H : Heap) (locs : List Loc) (ls : Array Slot), (0 ≤ x2_5.toInt ∧ x2_5.toInt ≤ 12) → (x2_5.toInt).toNat < N_5 → va_P G vwCl (WC cy L K R I J E B) H → va_S A s.heap H locs → lv_has ls 3 [(2, .int x2_5), (0, .ref ahead), (1, .ref behind)] → W p l e (headSpec (.code yX3_overlap cX3_overlap 3 (some .int) :: TBg) ({ frames := 3, cells := 0, slots := 0, locals := 192 })).room s m ([.ref ahead, .ref behind] : List Value).toArray below meth c H locs 0 0 (MQ below (va_Qi (fun (r : Int32) (_ : Unit) => True) (fun _ _ => True) A) ([.ref ahead, .ref behind] : List Value).toArray s 0 0 A) (F0 m 12 ls []) := by
    intro N_5
    induction N_5 with
    | zero => intro x2_5 H locs ls qf5_0 hm9 hP hS hl; exact absurd hm9 (Nat.not_lt_zero _)
    | succ N_5 ih_5 =>
      intro x2_5 H locs ls qf5_0 hm9 hP hS hl
      refine lv_iload_n hx hb dX3_overlap_12 rfl (lv_at hl 0 rfl) ?_
      refine lv_if_le (tgt := 39) hx hb dX3_overlap_13 (by decide) (fun c_6 => ?_) (fun c_6 => ?_)
      · have q_7 : x2_5.toInt ≤ (0 : Int32).toInt := (ow_le _ _).mp c_6
        refine lv_iconst (v := 0) hx hb dX3_overlap_39 (by decide) ?_
        refine W.widen (k := 0) (n := 0) (Nat.le_of_ble_eq_true rfl) (Nat.le_of_ble_eq_true rfl) ?_
        exact W.iret (v := 0) hx hb hr (fun t ht9 hW => ⟨⟨0, (), rfl, trivial, trivial⟩, hS.F ht9⟩) hS.2.2 dX3_overlap_40
      · have q_8 : (0 : Int32).toInt < x2_5.toInt := by have := (not_congr (ow_le _ _)).mp c_6; omega
        refine lv_aload_n hx hb dX3_overlap_16 rfl (lv_at hl 2 rfl) ?_
        refine lv_iload_n hx hb dX3_overlap_17 rfl (lv_at hl 0 rfl) ?_
        refine lv_aload_n hx hb dX3_overlap_18 rfl (lv_at hl 1 rfl) ?_
        refine lv_aload_n hx hb dX3_overlap_19 rfl (lv_at hl 1 rfl) ?_
        refine cg_2_2_3 hx hb ht hown hK hN hP h_ahead.1 h_ahead.2 dX3_overlap_20 ?_
        have q_9 : 0 ≤ (I ahead 2).toInt ∧ (I ahead 2).toInt ≤ 12 := IV.rd hI h_ahead.1 h_ahead.2 2
        refine lv_iload_n hx hb dX3_overlap_23 rfl (lv_at hl 0 rfl) ?_
        refine lv_isub hx hb dX3_overlap_24 ?_
        refine lv_topi (fun v_10 ev_10 => ?_)
        have q_11 : v_10.toInt = (I ahead 2).toInt - x2_5.toInt := ow_sub ev_10 (by omega) (by omega)
        have hFc := fr_new hS hA
        refine va_calli (va_runV (As := [.int x2_5, .ref ahead, .int v_10]) (rest := []) ⟨hx, hb, hml, hown, ht⟩ (c_offF2 l G cy _ L K R T I E J B behind x2_5 ahead v_10 hRT hI hE h_behind.1 h_behind.2 h_ahead.1 h_ahead.2) (cwV 3 ht (gv k_741 k_410 k_411 k_399 k_408) rfl rfl rfl (by decide +kernel) ⟨Nat.le_of_ble_eq_true rfl, Nat.le_of_ble_eq_true rfl⟩) ⟨En.blind, cr_2 hK hP h_behind.1 h_behind.2, fun U hU hW => ⟨rfl, En.of hU hW hP hK hD0 hN⟩⟩ rfl rfl hl.1 rfl (lv_room (Nat.le_of_ble_eq_true rfl)) dX3_overlap_25 ⟨Nat.le_of_ble_eq_true rfl, Nat.le_of_ble_eq_true rfl⟩) hS (fun q _ h => hFc q h) hFc (fun r_u_12 u_12 t9 H locs ht9 hvm hw hB hz1 hk1 hS => ?_)
        have hP := fr_keep hP hk1
        have wu_12 := hw
        clear hFc hk1 hz1 hB hw
        refine lv_if_ne (tgt := 33) hx hb dX3_overlap_28 (by decide) (fun c_13 => ?_) (fun c_13 => ?_)
        · have q_14 : ¬ r_u_12.toInt = (0 : Int32).toInt := by have := (not_congr (ow_eq _ _)).mp c_13; omega
          obtain ⟨v_15, ev_15⟩ : ∃ y : Int32, y = x2_5 + (-1) := ⟨_, rfl⟩
          refine lv_iinc (v := v_15) (lv' := [(2, .int v_15), (0, .ref ahead), (1, .ref behind)]) hx hb dX3_overlap_33 hl (k := 0) rfl (by rw [ev_15]; rfl) (by decide) rfl (fun ls hl => ?_)
          have q_16 : v_15.toInt = x2_5.toInt + -1 := by have := ow_add ev_15 (by omega) (by omega); omega
          refine lv_goto (tgt := 12) hx hb dX3_overlap_36 (by decide) ?_
          refine W.widen (k := 0) (n := 0) (Nat.le_of_ble_eq_true rfl) (Nat.le_of_ble_eq_true rfl) ?_
          exact ih_5 v_15 _ _ _ (by omega) (by omega) hP hS (lv_sub hl [0, 1, 2] rfl)
        · have q_17 : r_u_12.toInt = (0 : Int32).toInt := (ow_eq _ _).mp c_13
          refine lv_iload_n hx hb dX3_overlap_31 rfl (lv_at hl 0 rfl) ?_
          refine W.widen (k := 0) (n := 0) (Nat.le_of_ble_eq_true rfl) (Nat.le_of_ble_eq_true rfl) ?_
          exact W.iret (v := x2_5) hx hb hr (fun t ht9 hW => ⟨⟨x2_5, (), rfl, trivial, trivial⟩, hS.F ht9⟩) hS.2.2 dX3_overlap_32
  exact lp_5 _ v_3 _ _ _ (by omega) (Nat.lt_succ_self _) hP hS (lv_sub hl [0, 1, 2] rfl)
set_option maxHeartbeats 4000000 in
set_option maxRecDepth 100000 in
theorem l_left (l : Launch) (G : va_G) (cy : Nat → ClassId) (sz : Nat) (L : List Nat) (K : Nat → Nat) (R : Nat → Nat → Nat) (T : Int) (I E : Nat → Nat → Int32) (J B : Nat → Nat → Int64) (town : Nat) (n : Int32) (n2 : Int32) (hRT : RT L K R) (hI : IV T L K I) (hE : EV L K E) (h_town1 : town ∈ L) (h_town2 : K town = 1) (h_n2 : 0 ≤ n2.toInt ∧ n2.toInt ≤ 13) : Met l yX3_isLeftOut (.code yX3_isLeftOut cX3_isLeftOut 5 (some .boolean) :: TBg) ({ frames := 2, cells := 0, slots := 0, locals := 128 }) (va_Pc [.ref town, .int n, .int n2] (En G cy (WC cy L K R I J E B) sz)) (va_Qi (fun (r : Int32) (_ : Unit) => (r.toInt = 0 ∨ r.toInt = 1)) (fun _ _ => True) (va_A [] sz)) 0 0 (va_A [] sz) := by
  have h_town : town ∈ L ∧ K town = 1 := ⟨h_town1, h_town2⟩
  refine Met.ofW (cc := cX3_isLeftOut) (maxL := 5) (ret := (some .boolean)) (by decide) rfl ?_
  intro p e s m args below meth c s₁ B9 hml hv9
  obtain ⟨rfl, hsz, hP, hK, hD0, hN⟩ := hv9
  have hx := B9.exec
  have hb := B9.bytes
  have hr := B9.returns
  have hts := atoms_spec (ws := .code yX3_isLeftOut cX3_isLeftOut 5 (some .boolean) :: TBg) B9.pre
  have ht : ∀ w ∈ TBg, w.before _ s = true := fun w h => hts w (List.mem_cons_of_mem _ h)
  have hown : s.vm.findClass RX3 = some m.cls := findClass_of_methodNamed B9.named
  have hlocks := B9.notSynchronized
  subst hsz
  generalize hAe : va_A [] s.heap.size = A at ⊢
  have hA : ∀ q : Nat, s.heap.size ≤ q → A q := fun q h => by rw [← hAe]; exact Or.inr h
  have hS : va_S A s.heap s.heap [] := va_S.rf
  have hl := lv_entry ([.ref town, .int n, .int n2]) (n := 5) (Nat.le_of_ble_eq_true rfl)
  rw [lg_entry_eq]
  generalize (lg_sl ([.ref town, .int n, .int n2]) ++ List.replicate (5 - (lg_sl ([.ref town, .int n, .int n2])).length) Slot.unset).toArray = ls at hl ⊢
  have hl : lv_has ls 5 [(0, .ref town), (1, .int n), (2, .int n2)] := hl
  have z0 : (0 : Int32).toInt = 0 := by decide
  have z1 : (1 : Int32).toInt = 1 := by decide
  refine lv_iconst (v := 0) hx hb dX3_isLeftOut_0 (by decide) ?_
  refine lv_istore_n (lv' := [(3, .int 0), (0, .ref town), (1, .int n), (2, .int n2)]) hx hb dX3_isLeftOut_1 rfl hl (by decide) rfl (fun ls hl => ?_)
  refine W.widen (k := 0) (n := 0) (Nat.le_of_ble_eq_true rfl) (Nat.le_of_ble_eq_true rfl) ?_
  have lp_1 : ∀ (N_1 : Nat) (x3_1 : Int32) (H : Heap) (locs : List Loc) (ls : Array Slot), (0 ≤ x3_1.toInt ∧ x3_1.toInt ≤ 14) → (14 - x3_1.toInt).toNat < N_1 → va_P G vwCl (WC cy L K R I J E B) H → va_S A s.heap H locs → lv_has ls 5 [(3, .int x3_1), (0, .ref town), (1, .int n), (2, .int n2)] → W p l e (headSpec (.code yX3_isLeftOut cX3_isLeftOut 5 (some .boolean) :: TBg) ({ frames := 2, cells := 0, slots := 0, locals := 128 })).room s m ([.ref town, .int n, .int n2] : List Value).toArray below meth c H locs 0 0 (MQ below (va_Qi (fun (r : Int32) (_ : Unit) => (r.toInt = 0 ∨ r.toInt = 1)) (fun _ _ => True) A) ([.ref town, .int n, .int n2] : List Value).toArray s 0 0 A) (F0 m 2 ls []) := by
    intro N_1
    induction N_1 with
    | zero => intro x3_1 H locs ls qf1_0 hm9 hP hS hl; exact absurd hm9 (Nat.not_lt_zero _)
    | succ N_1 ih_1 =>
      intro x3_1 H locs ls qf1_0 hm9 hP hS hl
      refine lv_iload_n hx hb dX3_isLeftOut_2 rfl (lv_at hl 0 rfl) ?_
      refine lv_aload_n hx hb dX3_isLeftOut_3 rfl (lv_at hl 1 rfl) ?_
      refine cg_1_3_3 hx hb ht hown hK hN hP h_town.1 h_town.2 dX3_isLeftOut_4 ?_
      have q_2 : 0 ≤ (I town 3).toInt ∧ (I town 3).toInt ≤ 14 := IV.rd hI h_town.1 h_town.2 3
      refine lv_icmp_ge (tgt := 68) hx hb dX3_isLeftOut_7 (by decide) (fun c_3 => ?_) (fun c_3 => ?_)
      · have q_4 : (I town 3).toInt ≤ x3_1.toInt := (ow_le _ _).mp c_3
        refine lv_iconst (v := 0) hx hb dX3_isLeftOut_68 (by decide) ?_
        refine W.widen (k := 0) (n := 0) (Nat.le_of_ble_eq_true rfl) (Nat.le_of_ble_eq_true rfl) ?_
        exact W.zret (v := 0) hx hb hr rfl (fun t ht9 hW => ⟨⟨0, (), rfl, (by omega), trivial⟩, hS.F ht9⟩) hS.2.2 dX3_isLeftOut_69
      · have q_5 : x3_1.toInt < (I town 3).toInt := by have := (not_congr (ow_le _ _)).mp c_3; omega
        refine W.widen (k := 0) (n := 0) (Nat.le_of_ble_eq_true rfl) (Nat.le_of_ble_eq_true rfl) ?_
        have jn_6 : ∀ (y0_6 : Int32) (H : Heap) (locs : List Loc) (ls : Array Slot), (0 ≤ y0_6.toInt ∧ y0_6.toInt ≤ 1) → va_P G vwCl (WC cy L K R I J E B) H → va_S A s.heap H locs → lv_has ls 5 [(3, .int x3_1), (0, .ref town), (1, .int n), (2, .int n2)] → W p l e (headSpec (.code yX3_isLeftOut cX3_isLeftOut 5 (some .boolean) :: TBg) ({ frames := 2, cells := 0, slots := 0, locals := 128 })).room s m ([.ref town, .int n, .int n2] : List Value).toArray below meth c H locs 0 0 (MQ below (va_Qi (fun (r : Int32) (_ : Unit) => (r.toInt = 0 ∨ r.toInt = 1)) (fun _ _ => True) A) ([.ref town, .int n, .int n2] : List Value).toArray s 0 0 A) (F0 m 28 ls [.int y0_6]) := by
          intro y0_6 H locs ls qf6_0 hP hS hl
          refine lv_istore (lv' := [(4, .int y0_6), (3, .int x3_1), (0, .ref town), (1, .int n), (2, .int n2)]) hx hb dX3_isLeftOut_28 hl (by decide) rfl (fun ls hl => ?_)
          refine lv_iload hx hb dX3_isLeftOut_30 (lv_at hl 0 rfl) ?_
          refine lv_if_eq (tgt := 62) hx hb dX3_isLeftOut_32 (by decide) (fun c_7 => ?_) (fun c_7 => ?_)
          · have q_8 : y0_6.toInt = (0 : Int32).toInt := (ow_eq _ _).mp c_7
            obtain ⟨v_9, ev_9⟩ : ∃ y : Int32, y = x3_1 + 1 := ⟨_, rfl⟩
            refine lv_iinc (v := v_9) (lv' := [(3, .int v_9), (4, .int y0_6), (0, .ref town), (1, .int n), (2, .int n2)]) hx hb dX3_isLeftOut_62 hl (k := 1) rfl (by rw [ev_9]; rfl) (by decide) rfl (fun ls hl => ?_)
            have q_10 : v_9.toInt = x3_1.toInt + 1 := by have := ow_add ev_9 (by omega) (by omega); omega
            refine lv_goto (tgt := 2) hx hb dX3_isLeftOut_65 (by decide) ?_
            refine W.widen (k := 0) (n := 0) (Nat.le_of_ble_eq_true rfl) (Nat.le_of_ble_eq_true rfl) ?_
            exact ih_1 v_9 _ _ _ (by omega) (by omega) hP hS (lv_sub hl [0, 2, 3, 4] rfl)
          · have q_11 : ¬ y0_6.toInt = (0 : Int32).toInt := by have := (not_congr (ow_eq _ _)).mp c_7; omega
            refine lv_aload_n hx hb dX3_isLeftOut_35 rfl (lv_at hl 2 rfl) ?_
            refine lv_iload_n hx hb dX3_isLeftOut_36 rfl (lv_at hl 4 rfl) ?_
            refine lv_iload_n hx hb dX3_isLeftOut_37 rfl (lv_at hl 1 rfl) ?_
            refine lv_iconst (v := 0) hx hb dX3_isLeftOut_38 (by decide) ?_
            have hFc := fr_new hS hA
            refine va_calli (va_runV (As := [.int n2, .int x3_1, .int 0]) (rest := []) ⟨hx, hb, hml, hown, ht⟩ (c_tisIn l G cy _ L K R T I E J B town n2 x3_1 (0) hRT hI hE h_town.1 h_town.2 (by omega) (by omega)) (cwV 3 ht (gv k_742 k_476 k_477 k_461 k_474) rfl rfl rfl (by decide +kernel) ⟨Nat.le_of_ble_eq_true rfl, Nat.le_of_ble_eq_true rfl⟩) ⟨En.blind, cr_1 hK hP h_town.1 h_town.2, fun U hU hW => ⟨rfl, En.of hU hW hP hK hD0 hN⟩⟩ rfl rfl hl.1 rfl (lv_room (Nat.le_of_ble_eq_true rfl)) dX3_isLeftOut_39 ⟨Nat.le_of_ble_eq_true rfl, Nat.le_of_ble_eq_true rfl⟩) hS (fun q _ h => hFc q h) hFc (fun r_u_12 u_12 t9 H locs ht9 hvm hw hB hz1 hk1 hS => ?_)
            have hP := fr_keep hP hk1
            have wu_12 := hw
            clear hFc hk1 hz1 hB hw
            refine lv_if_eq (tgt := 62) hx hb dX3_isLeftOut_42 (by decide) (fun c_13 => ?_) (fun c_13 => ?_)
            · have q_14 : r_u_12.toInt = (0 : Int32).toInt := (ow_eq _ _).mp c_13
              obtain ⟨v_15, ev_15⟩ : ∃ y : Int32, y = x3_1 + 1 := ⟨_, rfl⟩
              refine lv_iinc (v := v_15) (lv' := [(3, .int v_15), (4, .int y0_6), (0, .ref town), (1, .int n), (2, .int n2)]) hx hb dX3_isLeftOut_62 hl (k := 1) rfl (by rw [ev_15]; rfl) (by decide) rfl (fun ls hl => ?_)
              have q_16 : v_15.toInt = x3_1.toInt + 1 := by have := ow_add ev_15 (by omega) (by omega); omega
              refine lv_goto (tgt := 2) hx hb dX3_isLeftOut_65 (by decide) ?_
              refine W.widen (k := 0) (n := 0) (Nat.le_of_ble_eq_true rfl) (Nat.le_of_ble_eq_true rfl) ?_
              exact ih_1 v_15 _ _ _ (by omega) (by omega) hP hS (lv_sub hl [0, 2, 3, 4] rfl)
            · have q_17 : ¬ r_u_12.toInt = (0 : Int32).toInt := by have := (not_congr (ow_eq _ _)).mp c_13; omega
              refine lv_iload_n hx hb dX3_isLeftOut_45 rfl (lv_at hl 1 rfl) ?_
              refine lv_iload_n hx hb dX3_isLeftOut_46 rfl (lv_at hl 4 rfl) ?_
              refine lv_icmp_lt (tgt := 60) hx hb dX3_isLeftOut_47 (by decide) (fun c_18 => ?_) (fun c_18 => ?_)
              · have q_19 : x3_1.toInt < n2.toInt := (ow_lt _ _).mp c_18
                refine lv_iconst (v := 1) hx hb dX3_isLeftOut_60 (by decide) ?_
                refine W.widen (k := 0) (n := 0) (Nat.le_of_ble_eq_true rfl) (Nat.le_of_ble_eq_true rfl) ?_
                exact W.zret (v := 1) hx hb hr rfl (fun t ht9 hW => ⟨⟨1, (), rfl, (by omega), trivial⟩, hS.F ht9⟩) hS.2.2 dX3_isLeftOut_61
              · have q_20 : n2.toInt ≤ x3_1.toInt := by have := (not_congr (ow_lt _ _)).mp c_18; omega
                refine lv_aload_n hx hb dX3_isLeftOut_50 rfl (lv_at hl 2 rfl) ?_
                refine lv_iload_n hx hb dX3_isLeftOut_51 rfl (lv_at hl 1 rfl) ?_
                refine lv_iload_n hx hb dX3_isLeftOut_52 rfl (lv_at hl 4 rfl) ?_
                refine lv_iconst (v := 0) hx hb dX3_isLeftOut_53 (by decide) ?_
                have hFc := fr_new hS hA
                refine va_calli (va_runV (As := [.int x3_1, .int n2, .int 0]) (rest := []) ⟨hx, hb, hml, hown, ht⟩ (c_tisIn l G cy _ L K R T I E J B town x3_1 n2 (0) hRT hI hE h_town.1 h_town.2 (by omega) (by omega)) (cwV 3 ht (gv k_742 k_476 k_477 k_461 k_474) rfl rfl rfl (by decide +kernel) ⟨Nat.le_of_ble_eq_true rfl, Nat.le_of_ble_eq_true rfl⟩) ⟨En.blind, cr_1 hK hP h_town.1 h_town.2, fun U hU hW => ⟨rfl, En.of hU hW hP hK hD0 hN⟩⟩ rfl rfl hl.1 rfl (lv_room (Nat.le_of_ble_eq_true rfl)) dX3_isLeftOut_54 ⟨Nat.le_of_ble_eq_true rfl, Nat.le_of_ble_eq_true rfl⟩) hS (fun q _ h => hFc q h) hFc (fun r_u_21 u_21 t9 H locs ht9 hvm hw hB hz1 hk1 hS => ?_)
                have hP := fr_keep hP hk1
                have wu_21 := hw
                clear hFc hk1 hz1 hB hw
                refine lv_if_ne (tgt := 62) hx hb dX3_isLeftOut_57 (by decide) (fun c_22 => ?_) (fun c_22 => ?_)
                · have q_23 : ¬ r_u_21.toInt = (0 : Int32).toInt := by have := (not_congr (ow_eq _ _)).mp c_22; omega
                  obtain ⟨v_24, ev_24⟩ : ∃ y : Int32, y = x3_1 + 1 := ⟨_, rfl⟩
                  refine lv_iinc (v := v_24) (lv' := [(3, .int v_24), (4, .int y0_6), (0, .ref town), (1, .int n), (2, .int n2)]) hx hb dX3_isLeftOut_62 hl (k := 1) rfl (by rw [ev_24]; rfl) (by decide) rfl (fun ls hl => ?_)
                  have q_25 : v_24.toInt = x3_1.toInt + 1 := by have := ow_add ev_24 (by omega) (by omega); omega
                  refine lv_goto (tgt := 2) hx hb dX3_isLeftOut_65 (by decide) ?_
                  refine W.widen (k := 0) (n := 0) (Nat.le_of_ble_eq_true rfl) (Nat.le_of_ble_eq_true rfl) ?_
                  exact ih_1 v_24 _ _ _ (by omega) (by omega) hP hS (lv_sub hl [0, 2, 3, 4] rfl)
                · have q_26 : r_u_21.toInt = (0 : Int32).toInt := (ow_eq _ _).mp c_22
                  refine lv_iconst (v := 1) hx hb dX3_isLeftOut_60 (by decide) ?_
                  refine W.widen (k := 0) (n := 0) (Nat.le_of_ble_eq_true rfl) (Nat.le_of_ble_eq_true rfl) ?_
                  exact W.zret (v := 1) hx hb hr rfl (fun t ht9 hW => ⟨⟨1, (), rfl, (by omega), trivial⟩, hS.F ht9⟩) hS.2.2 dX3_isLeftOut_61
        refine lv_iload_n hx hb dX3_isLeftOut_10 rfl (lv_at hl 0 rfl) ?_
        refine lv_iload_n hx hb dX3_isLeftOut_11 rfl (lv_at hl 3 rfl) ?_
        refine lv_icmp_eq (tgt := 27) hx hb dX3_isLeftOut_12 (by decide) (fun c_27 => ?_) (fun c_27 => ?_)
        · have q_28 : x3_1.toInt = n2.toInt := (ow_eq _ _).mp c_27
          refine lv_iconst (v := 0) hx hb dX3_isLeftOut_27 (by decide) ?_
          refine W.widen (k := 0) (n := 0) (Nat.le_of_ble_eq_true rfl) (Nat.le_of_ble_eq_true rfl) ?_
          exact jn_6 (0) _ _ _ (by omega) hP hS (lv_sub hl [0, 1, 2, 3] rfl)
        · have q_29 : ¬ x3_1.toInt = n2.toInt := by have := (not_congr (ow_eq _ _)).mp c_27; omega
          refine lv_iload_n hx hb dX3_isLeftOut_15 rfl (lv_at hl 2 rfl) ?_
          refine lv_iload_n hx hb dX3_isLeftOut_16 rfl (lv_at hl 0 rfl) ?_
          refine lv_ishr hx hb dX3_isLeftOut_17 ?_
          refine lv_topi (fun v_30 ev_30 => ?_)
          refine lv_iconst (v := 1) hx hb dX3_isLeftOut_18 (by decide) ?_
          refine lv_iand hx hb dX3_isLeftOut_19 ?_
          refine lv_topi (fun v_31 ev_31 => ?_)
          have q_32 : 0 ≤ v_31.toInt ∧ v_31.toInt ≤ 1 := by rw [ev_31]; exact ow_and1 _
          refine lv_if_eq (tgt := 27) hx hb dX3_isLeftOut_20 (by decide) (fun c_33 => ?_) (fun c_33 => ?_)
          · have q_34 : v_31.toInt = (0 : Int32).toInt := (ow_eq _ _).mp c_33
            refine lv_iconst (v := 0) hx hb dX3_isLeftOut_27 (by decide) ?_
            refine W.widen (k := 0) (n := 0) (Nat.le_of_ble_eq_true rfl) (Nat.le_of_ble_eq_true rfl) ?_
            exact jn_6 (0) _ _ _ (by omega) hP hS (lv_sub hl [0, 1, 2, 3] rfl)
          · have q_35 : ¬ v_31.toInt = (0 : Int32).toInt := by have := (not_congr (ow_eq _ _)).mp c_33; omega
            refine lv_iconst (v := 1) hx hb dX3_isLeftOut_23 (by decide) ?_
            refine lv_goto (tgt := 28) hx hb dX3_isLeftOut_24 (by decide) ?_
            refine W.widen (k := 0) (n := 0) (Nat.le_of_ble_eq_true rfl) (Nat.le_of_ble_eq_true rfl) ?_
            exact jn_6 (1) _ _ _ (by omega) hP hS (lv_sub hl [0, 1, 2, 3] rfl)
  exact lp_1 _ (0) _ _ _ (by omega) (Nat.lt_succ_self _) hP hS (lv_sub hl [0, 1, 2, 3] rfl)
set_option maxHeartbeats 4000000 in
set_option maxRecDepth 100000 in
theorem l_next6 (l : Launch) (G : va_G) (cy : Nat → ClassId) (sz : Nat) (tq qq wq : Nat) (fo : Option Nat) (L : List Nat) (K : Nat → Nat) (R : Nat → Nat → Nat) (T : Int) (I E : Nat → Nat → Int32) (J B : Nat → Nat → Int64) (laying : Nat) (n : Int32) (n2 : Int32) (n3 : Int32) (hRT : RT L K R) (hI : IV T L K I) (hE : EV L K E) (h_laying1 : laying ∈ L) (h_laying2 : K laying = 10) (h_n : 6 ≤ n.toInt ∧ n.toInt ≤ 6) : Met l yX3_layNext (.code yX3_layNext cX3_layNext 6 none :: TBg) ({ frames := 2, cells := 0, slots := 0, locals := 128 }) (va_Pc [.ref laying, .int n, .int n2, .int n3] (EnX G cy (WC cy L K R I J E B) sz tq qq wq fo (va_A (WC cy L K R I J E B) sz))) (va_Qv (fun (u : (Nat → Nat → Int32) × (Nat → Nat → Int64) × (Nat → Nat → Int32) × (Nat → Nat → Int64)) => IV T L K u.1 ∧ EV L K u.2.2.1 ∧ FI [(10, 6)] K I u.1 ∧ (True)) (fun u t => Ex G (va_A (WC cy L K R I J E B) sz) (WC cy L K R u.1 u.2.1 u.2.2.1 u.2.2.2) t) (va_A (WC cy L K R I J E B) sz)) 0 0 (va_A (WC cy L K R I J E B) sz) := by
  have h_laying : laying ∈ L ∧ K laying = 10 := ⟨h_laying1, h_laying2⟩
  refine Met.ofW (cc := cX3_layNext) (maxL := 6) (ret := none) (by decide) rfl ?_
  intro p e s m args below meth c s₁ B9 hml hv9
  obtain ⟨rfl, ⟨hsz, hP, hK, hD0, hN⟩, hX⟩ := hv9
  have hx := B9.exec
  have hb := B9.bytes
  have hr := B9.returns
  have hts := atoms_spec (ws := .code yX3_layNext cX3_layNext 6 none :: TBg) B9.pre
  have ht : ∀ w ∈ TBg, w.before _ s = true := fun w h => hts w (List.mem_cons_of_mem _ h)
  have hown : s.vm.findClass RX3 = some m.cls := findClass_of_methodNamed B9.named
  have hlocks := B9.notSynchronized
  subst hsz
  have hD := hD0.self (sz := s.heap.size)
  generalize hAe : va_A (WC cy L K R I J E B) s.heap.size = A at hD hX ⊢
  have hA : ∀ q : Nat, s.heap.size ≤ q → A q := fun q h => by rw [← hAe]; exact Or.inr h
  have hS : va_S A s.heap s.heap [] := va_S.rf
  have hl := lv_entry ([.ref laying, .int n, .int n2, .int n3]) (n := 6) (Nat.le_of_ble_eq_true rfl)
  rw [lg_entry_eq]
  generalize (lg_sl ([.ref laying, .int n, .int n2, .int n3]) ++ List.replicate (6 - (lg_sl ([.ref laying, .int n, .int n2, .int n3])).length) Slot.unset).toArray = ls at hl ⊢
  have hl : lv_has ls 6 [(0, .ref laying), (1, .int n), (2, .int n2), (3, .int n3)] := hl
  have hC_0 : FI [(10, 6)] K I I := FI.rf
  refine lv_iload_n hx hb dX3_layNext_0 rfl (lv_at hl 3 rfl) ?_
  refine lv_aload_n hx hb dX3_layNext_1 rfl (lv_at hl 0 rfl) ?_
  refine cg_10_6_3 hx hb ht hown hK hN hP h_laying.1 h_laying.2 dX3_layNext_2 ?_
  refine lv_icmp_lt (tgt := 9) hx hb dX3_layNext_5 (by decide) (fun c_1 => ?_) (fun c_1 => ?_)
  · have q_2 : n3.toInt < (I laying 6).toInt := (ow_lt _ _).mp c_1
    refine lv_iload_n hx hb dX3_layNext_9 rfl (lv_at hl 1 rfl) ?_
    refine lv_aload_n hx hb dX3_layNext_10 rfl (lv_at hl 0 rfl) ?_
    refine cg_10_2_3 hx hb ht hown hK hN hP h_laying.1 h_laying.2 dX3_layNext_11 ?_
    have q_3 : 0 ≤ (I laying 2).toInt ∧ (I laying 2).toInt ≤ 6 := IV.rd hI h_laying.1 h_laying.2 2
    refine lv_icmp_ge (tgt := 23) hx hb dX3_layNext_14 (by decide) (fun c_4 => ?_) (fun c_4 => ?_)
    · have q_5 : (I laying 2).toInt ≤ n.toInt := (ow_le _ _).mp c_4
      refine lv_aload_n hx hb dX3_layNext_23 rfl (lv_at hl 0 rfl) ?_
      refine lv_iload_n hx hb dX3_layNext_24 rfl (lv_at hl 3 rfl) ?_
      refine cp_10_6_3 hx hb ht hown hK hN hP hD hS h_laying.1 h_laying.2 dX3_layNext_25 (fun H locs hP hD hS => ?_)
      replace hI := IV.up hI h_laying.2 6 (ow_any n3)
      have f_6 : FI [(10, 6)] K I (va_up I laying (va_up (I laying) 6 n3)) := FI.up h_laying.2 6 n3
      have e_7 : (va_up I laying (va_up (I laying) 6 n3)) laying 6 = n3 := FI.at I laying 6 n3
      replace hC_0 := FI.tr hC_0 f_6 (by decide)
      generalize (va_up I laying (va_up (I laying) 6 n3)) = I_8 at hP hD hI f_6 e_7 hC_0
      refine lv_aload_n hx hb dX3_layNext_28 rfl (lv_at hl 0 rfl) ?_
      refine cg_10_4_3 hx hb ht hown hK hN hP h_laying.1 h_laying.2 dX3_layNext_29 ?_
      have hm_9 : (R laying 4) ∈ L ∧ K (R laying 4) = 44 := RT.o hRT h_laying.1 h_laying.2 4 (by decide)
      refine lv_iconst (v := 0) hx hb dX3_layNext_32 (by decide) ?_
      refine lv_aload_n hx hb dX3_layNext_33 rfl (lv_at hl 0 rfl) ?_
      refine cg_10_5_3 hx hb ht hown hK hN hP h_laying.1 h_laying.2 dX3_layNext_34 ?_
      have hm_10 : (R laying 5) ∈ L ∧ K (R laying 5) = 45 := RT.o hRT h_laying.1 h_laying.2 5 (by decide)
      refine lv_iconst (v := 0) hx hb dX3_layNext_37 (by decide) ?_
      refine lv_bipush (v := 6) hx hb dX3_layNext_38 (by decide) ?_
      refine cc_44_45 hx hb (by rw [hml]; exact hl.1.symm) hown (ht _ k_743) (ht _ k_514) (ht _ k_515) (ht _ k_516) hK hP hD hS hm_9.1 hm_9.2 hm_10.1 hm_10.2 (Nat.le_of_ble_eq_true rfl) (Nat.le_of_ble_eq_true rfl) dX3_layNext_40 (fun g9 hg9 H locs hP hD hS => ?_)
      replace hE := EV.set hE hm_10.2 (g := g9) (fun j hj => hg9 j hj ▸ EV.at hE hm_9.1 hm_9.2 j hj)
      generalize (va_up E (R laying 5) g9) = E_11 at hP hD hE
      refine W.widen (k := 0) (n := 0) (Nat.le_of_ble_eq_true rfl) (Nat.le_of_ble_eq_true rfl) ?_
      exact W.vret hx hb hr (fun t ht9 hW => ⟨⟨(I_8, J, E_11, B), rfl, ⟨hI, hE, hC_0, trivial⟩, ⟨by rw [ht9]; exact hP, hD⟩⟩, hS.F ht9⟩) hS.2.2 dX3_layNext_43
    · have q_12 : n.toInt < (I laying 2).toInt := by have := (not_congr (ow_le _ _)).mp c_4; omega
      exfalso
      omega
  · have q_13 : (I laying 6).toInt ≤ n3.toInt := by have := (not_congr (ow_lt _ _)).mp c_1; omega
    refine W.widen (k := 0) (n := 0) (Nat.le_of_ble_eq_true rfl) (Nat.le_of_ble_eq_true rfl) ?_
    exact W.vret hx hb hr (fun t ht9 hW => ⟨⟨(I, J, E, B), rfl, ⟨hI, hE, hC_0, trivial⟩, ⟨by rw [ht9]; exact hP, hD⟩⟩, hS.F ht9⟩) hS.2.2 dX3_layNext_8
set_option maxHeartbeats 4000000 in
set_option maxRecDepth 100000 in
theorem l_next5 (l : Launch) (G : va_G) (cy : Nat → ClassId) (sz : Nat) (tq qq wq : Nat) (fo : Option Nat) (L : List Nat) (K : Nat → Nat) (R : Nat → Nat → Nat) (T : Int) (I E : Nat → Nat → Int32) (J B : Nat → Nat → Int64) (laying : Nat) (n : Int32) (n2 : Int32) (n3 : Int32) (hRT : RT L K R) (hI : IV T L K I) (hE : EV L K E) (h_laying1 : laying ∈ L) (h_laying2 : K laying = 10) (h_n : 5 ≤ n.toInt ∧ n.toInt ≤ 5) : Met l yX3_layNext (.code yX3_layNext cX3_layNext 6 none :: TBg) ({ frames := 3, cells := 0, slots := 0, locals := 192 }) (va_Pc [.ref laying, .int n, .int n2, .int n3] (EnX G cy (WC cy L K R I J E B) sz tq qq wq fo (va_A (WC cy L K R I J E B) sz))) (va_Qv (fun (u : (Nat → Nat → Int32) × (Nat → Nat → Int64) × (Nat → Nat → Int32) × (Nat → Nat → Int64)) => IV T L K u.1 ∧ EV L K u.2.2.1 ∧ FI [(10, 6)] K I u.1 ∧ (True)) (fun u t => Ex G (va_A (WC cy L K R I J E B) sz) (WC cy L K R u.1 u.2.1 u.2.2.1 u.2.2.2) t) (va_A (WC cy L K R I J E B) sz)) 0 0 (va_A (WC cy L K R I J E B) sz) := by
  have h_laying : laying ∈ L ∧ K laying = 10 := ⟨h_laying1, h_laying2⟩
  refine Met.ofW (cc := cX3_layNext) (maxL := 6) (ret := none) (by decide) rfl ?_
  intro p e s m args below meth c s₁ B9 hml hv9
  obtain ⟨rfl, ⟨hsz, hP, hK, hD0, hN⟩, hX⟩ := hv9
  have hx := B9.exec
  have hb := B9.bytes
  have hr := B9.returns
  have hts := atoms_spec (ws := .code yX3_layNext cX3_layNext 6 none :: TBg) B9.pre
  have ht : ∀ w ∈ TBg, w.before _ s = true := fun w h => hts w (List.mem_cons_of_mem _ h)
  have hown : s.vm.findClass RX3 = some m.cls := findClass_of_methodNamed B9.named
  have hlocks := B9.notSynchronized
  subst hsz
  have hD := hD0.self (sz := s.heap.size)
  generalize hAe : va_A (WC cy L K R I J E B) s.heap.size = A at hD hX ⊢
  have hA : ∀ q : Nat, s.heap.size ≤ q → A q := fun q h => by rw [← hAe]; exact Or.inr h
  have hS : va_S A s.heap s.heap [] := va_S.rf
  have hl := lv_entry ([.ref laying, .int n, .int n2, .int n3]) (n := 6) (Nat.le_of_ble_eq_true rfl)
  rw [lg_entry_eq]
  generalize (lg_sl ([.ref laying, .int n, .int n2, .int n3]) ++ List.replicate (6 - (lg_sl ([.ref laying, .int n, .int n2, .int n3])).length) Slot.unset).toArray = ls at hl ⊢
  have hl : lv_has ls 6 [(0, .ref laying), (1, .int n), (2, .int n2), (3, .int n3)] := hl
  have z0 : (0 : Int32).toInt = 0 := by decide
  have z1 : (1 : Int32).toInt = 1 := by decide
  have z2 : (6 : Int32).toInt = 6 := by decide
  have hC_0 : FI [(10, 6)] K I I := FI.rf
  refine lv_iload_n hx hb dX3_layNext_0 rfl (lv_at hl 3 rfl) ?_
  refine lv_aload_n hx hb dX3_layNext_1 rfl (lv_at hl 0 rfl) ?_
  refine cg_10_6_3 hx hb ht hown hK hN hP h_laying.1 h_laying.2 dX3_layNext_2 ?_
  refine lv_icmp_lt (tgt := 9) hx hb dX3_layNext_5 (by decide) (fun c_1 => ?_) (fun c_1 => ?_)
  · have q_2 : n3.toInt < (I laying 6).toInt := (ow_lt _ _).mp c_1
    refine lv_iload_n hx hb dX3_layNext_9 rfl (lv_at hl 1 rfl) ?_
    refine lv_aload_n hx hb dX3_layNext_10 rfl (lv_at hl 0 rfl) ?_
    refine cg_10_2_3 hx hb ht hown hK hN hP h_laying.1 h_laying.2 dX3_layNext_11 ?_
    have q_3 : 0 ≤ (I laying 2).toInt ∧ (I laying 2).toInt ≤ 6 := IV.rd hI h_laying.1 h_laying.2 2
    refine lv_icmp_ge (tgt := 23) hx hb dX3_layNext_14 (by decide) (fun c_4 => ?_) (fun c_4 => ?_)
    · have q_5 : (I laying 2).toInt ≤ n.toInt := (ow_le _ _).mp c_4
      refine lv_aload_n hx hb dX3_layNext_23 rfl (lv_at hl 0 rfl) ?_
      refine lv_iload_n hx hb dX3_layNext_24 rfl (lv_at hl 3 rfl) ?_
      refine cp_10_6_3 hx hb ht hown hK hN hP hD hS h_laying.1 h_laying.2 dX3_layNext_25 (fun H locs hP hD hS => ?_)
      replace hI := IV.up hI h_laying.2 6 (ow_any n3)
      have f_6 : FI [(10, 6)] K I (va_up I laying (va_up (I laying) 6 n3)) := FI.up h_laying.2 6 n3
      have e_7 : (va_up I laying (va_up (I laying) 6 n3)) laying 6 = n3 := FI.at I laying 6 n3
      replace hC_0 := FI.tr hC_0 f_6 (by decide)
      generalize (va_up I laying (va_up (I laying) 6 n3)) = I_8 at hP hD hI f_6 e_7 hC_0
      refine lv_aload_n hx hb dX3_layNext_28 rfl (lv_at hl 0 rfl) ?_
      refine cg_10_4_3 hx hb ht hown hK hN hP h_laying.1 h_laying.2 dX3_layNext_29 ?_
      have hm_9 : (R laying 4) ∈ L ∧ K (R laying 4) = 44 := RT.o hRT h_laying.1 h_laying.2 4 (by decide)
      refine lv_iconst (v := 0) hx hb dX3_layNext_32 (by decide) ?_
      refine lv_aload_n hx hb dX3_layNext_33 rfl (lv_at hl 0 rfl) ?_
      refine cg_10_5_3 hx hb ht hown hK hN hP h_laying.1 h_laying.2 dX3_layNext_34 ?_
      have hm_10 : (R laying 5) ∈ L ∧ K (R laying 5) = 45 := RT.o hRT h_laying.1 h_laying.2 5 (by decide)
      refine lv_iconst (v := 0) hx hb dX3_layNext_37 (by decide) ?_
      refine lv_bipush (v := 6) hx hb dX3_layNext_38 (by decide) ?_
      refine cc_44_45 hx hb (by rw [hml]; exact hl.1.symm) hown (ht _ k_743) (ht _ k_514) (ht _ k_515) (ht _ k_516) hK hP hD hS hm_9.1 hm_9.2 hm_10.1 hm_10.2 (Nat.le_of_ble_eq_true rfl) (Nat.le_of_ble_eq_true rfl) dX3_layNext_40 (fun g9 hg9 H locs hP hD hS => ?_)
      replace hE := EV.set hE hm_10.2 (g := g9) (fun j hj => hg9 j hj ▸ EV.at hE hm_9.1 hm_9.2 j hj)
      generalize (va_up E (R laying 5) g9) = E_11 at hP hD hE
      refine W.widen (k := 0) (n := 0) (Nat.le_of_ble_eq_true rfl) (Nat.le_of_ble_eq_true rfl) ?_
      exact W.vret hx hb hr (fun t ht9 hW => ⟨⟨(I_8, J, E_11, B), rfl, ⟨hI, hE, hC_0, trivial⟩, ⟨by rw [ht9]; exact hP, hD⟩⟩, hS.F ht9⟩) hS.2.2 dX3_layNext_43
    · have q_12 : n.toInt < (I laying 2).toInt := by have := (not_congr (ow_le _ _)).mp c_4; omega
      refine lv_iload_n hx hb dX3_layNext_17 rfl (lv_at hl 1 rfl) ?_
      refine lv_bipush (v := 6) hx hb dX3_layNext_18 (by decide) ?_
      refine lv_icmp_lt (tgt := 44) hx hb dX3_layNext_20 (by decide) (fun c_13 => ?_) (fun c_13 => ?_)
      · have q_14 : n.toInt < (6 : Int32).toInt := (ow_lt _ _).mp c_13
        refine lv_iconst (v := 0) hx hb dX3_layNext_44 (by decide) ?_
        refine lv_istore (lv' := [(4, .int 0), (0, .ref laying), (1, .int n), (2, .int n2), (3, .int n3)]) hx hb dX3_layNext_45 hl (by decide) rfl (fun ls hl => ?_)
        refine W.widen (k := 0) (n := 0) (Nat.le_of_ble_eq_true rfl) (Nat.le_of_ble_eq_true rfl) ?_
        have lp_15 : ∀ (N_15 : Nat) (x4_15 : Int32) (I15 : Nat → Nat → Int32) (J15 : Nat → Nat → Int64) (E15 : Nat → Nat → Int32) (B15 : Nat → Nat → Int64) (H : Heap) (locs : List Loc) (ls : Array Slot), IV T L K I15 → EV L K E15 → FI [(10, 6)] K I I15 → (0 ≤ x4_15.toInt ∧ x4_15.toInt ≤ 6) → (6 - x4_15.toInt).toNat < N_15 → va_P G vwCl (WC cy L K R I15 J15 E15 B15) H → va_D A (WC cy L K R I15 J15 E15 B15) → va_S A s.heap H locs → lv_has ls 6 [(4, .int x4_15), (0, .ref laying), (1, .int n), (2, .int n2), (3, .int n3)] → W p l e (headSpec (.code yX3_layNext cX3_layNext 6 none :: TBg) ({ frames := 3, cells := 0, slots := 0, locals := 192 })).room s m ([.ref laying, .int n, .int n2, .int n3] : List Value).toArray below meth c H locs 0 0 (MQ below (va_Qv (fun (u : (Nat → Nat → Int32) × (Nat → Nat → Int64) × (Nat → Nat → Int32) × (Nat → Nat → Int64)) => IV T L K u.1 ∧ EV L K u.2.2.1 ∧ FI [(10, 6)] K I u.1 ∧ (True)) (fun u t => Ex G A (WC cy L K R u.1 u.2.1 u.2.2.1 u.2.2.2) t) A) ([.ref laying, .int n, .int n2, .int n3] : List Value).toArray s 0 0 A) (F0 m 47 ls []) := by
          intro N_15
          induction N_15 with
          | zero => intro x4_15 I15 J15 E15 B15 H locs ls hI hE hC_15 qf15_0 hm9 hP hD hS hl; exact absurd hm9 (Nat.not_lt_zero _)
          | succ N_15 ih_15 =>
            intro x4_15 I15 J15 E15 B15 H locs ls hI hE hC_15 qf15_0 hm9 hP hD hS hl
            replace hC_0 := FI.tr hC_0 hC_15 (by decide)
            have hX_15 := hC_15
            refine lv_iload hx hb dX3_layNext_47 (lv_at hl 0 rfl) ?_
            refine lv_aload_n hx hb dX3_layNext_49 rfl (lv_at hl 1 rfl) ?_
            refine cg_10_2_3 hx hb ht hown hK hN hP h_laying.1 h_laying.2 dX3_layNext_50 ?_
            refine ow_top (I laying 2) (hC_15 laying 2 (by rw [h_laying.2]; decide)) ?_
            have q_16 : 0 ≤ (I laying 2).toInt ∧ (I laying 2).toInt ≤ 6 := by have h9 : I15 laying 2 = (I laying 2) := (hC_15 laying 2 (by rw [h_laying.2]; decide)); rw [← h9]; exact IV.rd hI h_laying.1 h_laying.2 2
            refine lv_icmp_ge (tgt := 130) hx hb dX3_layNext_53 (by decide) (fun c_17 => ?_) (fun c_17 => ?_)
            · have q_18 : (I laying 2).toInt ≤ x4_15.toInt := (ow_le _ _).mp c_17
              refine W.widen (k := 0) (n := 0) (Nat.le_of_ble_eq_true rfl) (Nat.le_of_ble_eq_true rfl) ?_
              exact W.vret hx hb hr (fun t ht9 hW => ⟨⟨(I15, J15, E15, B15), rfl, ⟨hI, hE, hC_0, trivial⟩, ⟨by rw [ht9]; exact hP, hD⟩⟩, hS.F ht9⟩) hS.2.2 dX3_layNext_130
            · have q_19 : x4_15.toInt < (I laying 2).toInt := by have := (not_congr (ow_le _ _)).mp c_17; omega
              refine lv_iload_n hx hb dX3_layNext_56 rfl (lv_at hl 3 rfl) ?_
              refine lv_iload hx hb dX3_layNext_57 (lv_at hl 0 rfl) ?_
              refine lv_ishr hx hb dX3_layNext_59 ?_
              refine lv_topi (fun v_20 ev_20 => ?_)
              refine lv_iconst (v := 1) hx hb dX3_layNext_60 (by decide) ?_
              refine lv_iand hx hb dX3_layNext_61 ?_
              refine lv_topi (fun v_21 ev_21 => ?_)
              have q_22 : 0 ≤ v_21.toInt ∧ v_21.toInt ≤ 1 := by rw [ev_21]; exact ow_and1 _
              refine lv_if_ne (tgt := 124) hx hb dX3_layNext_62 (by decide) (fun c_23 => ?_) (fun c_23 => ?_)
              · have q_24 : ¬ v_21.toInt = (0 : Int32).toInt := by have := (not_congr (ow_eq _ _)).mp c_23; omega
                obtain ⟨v_25, ev_25⟩ : ∃ y : Int32, y = x4_15 + 1 := ⟨_, rfl⟩
                refine lv_iinc (v := v_25) (lv' := [(4, .int v_25), (0, .ref laying), (1, .int n), (2, .int n2), (3, .int n3)]) hx hb dX3_layNext_124 hl (k := 0) rfl (by rw [ev_25]; rfl) (by decide) rfl (fun ls hl => ?_)
                have q_26 : v_25.toInt = x4_15.toInt + 1 := by have := ow_add ev_25 (by omega) (by omega); omega
                refine lv_goto (tgt := 47) hx hb dX3_layNext_127 (by decide) ?_
                refine W.widen (k := 0) (n := 0) (Nat.le_of_ble_eq_true rfl) (Nat.le_of_ble_eq_true rfl) ?_
                exact ih_15 v_25 I15 J15 E15 B15 _ _ _ hI hE hX_15 (by omega) (by omega) hP hD hS (lv_sub hl [0, 1, 2, 3, 4] rfl)
              · have q_27 : v_21.toInt = (0 : Int32).toInt := (ow_eq _ _).mp c_23
                refine lv_iload_n hx hb dX3_layNext_65 rfl (lv_at hl 2 rfl) ?_
                refine lv_if_ne (tgt := 73) hx hb dX3_layNext_66 (by decide) (fun c_28 => ?_) (fun c_28 => ?_)
                · have q_29 : ¬ n.toInt = (0 : Int32).toInt := by have := (not_congr (ow_eq _ _)).mp c_28; omega
                  refine lv_aload_n hx hb dX3_layNext_73 rfl (lv_at hl 1 rfl) ?_
                  refine cg_10_3_3 hx hb ht hown hK hN hP h_laying.1 h_laying.2 dX3_layNext_74 ?_
                  have hm_30 : (R laying 3) ∈ L ∧ K (R laying 3) = 42 := RT.o hRT h_laying.1 h_laying.2 3 (by decide)
                  refine lv_aload_n hx hb dX3_layNext_77 rfl (lv_at hl 1 rfl) ?_
                  refine cg_10_4_3 hx hb ht hown hK hN hP h_laying.1 h_laying.2 dX3_layNext_78 ?_
                  have hm_31 : (R laying 4) ∈ L ∧ K (R laying 4) = 44 := RT.o hRT h_laying.1 h_laying.2 4 (by decide)
                  refine lv_iload_n hx hb dX3_layNext_81 rfl (lv_at hl 2 rfl) ?_
                  refine lv_iconst (v := 1) hx hb dX3_layNext_82 (by decide) ?_
                  refine lv_isub hx hb dX3_layNext_83 ?_
                  refine lv_topi (fun v_32 ev_32 => ?_)
                  have q_33 : v_32.toInt = n.toInt - (1 : Int32).toInt := ow_sub ev_32 (by omega) (by omega)
                  have q_34 : vp_in v_32 6 := vp_in_iff.mpr ⟨by omega, by omega⟩
                  refine cl_44 hx hb hK hP hm_31.1 hm_31.2 q_34 dX3_layNext_84 ?_
                  refine lv_topi (fun v_35 ev_35 => ?_)
                  have q_36 : 0 ≤ v_35.toInt ∧ v_35.toInt ≤ 5 := by rw [ev_35]; exact EV.rd hE hm_31.1 hm_31.2 q_34
                  have q_37 : vp_in v_35 6 := vp_in_iff.mpr ⟨by omega, by omega⟩
                  refine cl_42 hx hb hX.2.2 hP hm_30.1 hm_30.2 q_37 dX3_layNext_85 ?_
                  have hm_38 : (R (R laying 3) (Int32.toNatClampNeg v_35)) ∈ L ∧ K (R (R laying 3) (Int32.toNatClampNeg v_35)) = 43 := RT.a hRT hm_30.1 hm_30.2 (by decide) q_37
                  refine lv_iload hx hb dX3_layNext_86 (lv_at hl 0 rfl) ?_
                  have q_39 : vp_in x4_15 6 := vp_in_iff.mpr ⟨by omega, by omega⟩
                  refine cl_43 hx hb hK hP hm_38.1 hm_38.2 q_39 dX3_layNext_88 ?_
                  refine lv_topi (fun v_40 ev_40 => ?_)
                  refine lv_istore (lv' := [(5, .int v_40), (4, .int x4_15), (0, .ref laying), (1, .int n), (2, .int n2), (3, .int n3)]) hx hb dX3_layNext_89 hl (by decide) rfl (fun ls hl => ?_)
                  refine lv_aload_n hx hb dX3_layNext_91 rfl (lv_at hl 2 rfl) ?_
                  refine cg_10_4_3 hx hb ht hown hK hN hP h_laying.1 h_laying.2 dX3_layNext_92 ?_
                  refine lv_iload_n hx hb dX3_layNext_95 rfl (lv_at hl 3 rfl) ?_
                  refine lv_iload hx hb dX3_layNext_96 (lv_at hl 1 rfl) ?_
                  have q_41 : vp_in n 6 := vp_in_iff.mpr ⟨by omega, by omega⟩
                  refine cs_44 hx hb hK hP hD hS hm_31.1 hm_31.2 q_41 dX3_layNext_98 (fun H locs hP hD hS => ?_)
                  replace hE := EV.up hE hm_31.2 (i := (Int32.toNatClampNeg n)) (show 0 ≤ x4_15.toInt ∧ x4_15.toInt ≤ 5 from by omega)
                  generalize (va_up E15 (R laying 4) (upd (E15 (R laying 4)) (Int32.toNatClampNeg n) x4_15)) = E_42 at hP hD hE
                  refine lv_aload_n hx hb dX3_layNext_99 rfl (lv_at hl 2 rfl) ?_
                  refine lv_iload_n hx hb dX3_layNext_100 rfl (lv_at hl 3 rfl) ?_
                  refine lv_iconst (v := 1) hx hb dX3_layNext_101 (by decide) ?_
                  refine lv_iadd hx hb dX3_layNext_102 ?_
                  refine lv_topi (fun v_43 ev_43 => ?_)
                  have q_44 : v_43.toInt = n.toInt + (1 : Int32).toInt := ow_add ev_43 (by omega) (by omega)
                  refine lv_iload_n hx hb dX3_layNext_103 rfl (lv_at hl 4 rfl) ?_
                  refine lv_iconst (v := 1) hx hb dX3_layNext_104 (by decide) ?_
                  refine lv_iload hx hb dX3_layNext_105 (lv_at hl 1 rfl) ?_
                  refine lv_ishl hx hb dX3_layNext_107 ?_
                  refine lv_topi (fun v_45 ev_45 => ?_)
                  refine lv_ior hx hb dX3_layNext_108 ?_
                  refine lv_topi (fun v_46 ev_46 => ?_)
                  refine lv_iload_n hx hb dX3_layNext_109 rfl (lv_at hl 5 rfl) ?_
                  refine lv_aload_n hx hb dX3_layNext_110 rfl (lv_at hl 2 rfl) ?_
                  refine cg_10_1_3 hx hb ht hown hK hN hP h_laying.1 h_laying.2 dX3_layNext_111 ?_
                  have hm_47 : (R laying 1) ∈ L ∧ K (R laying 1) = 41 := RT.o hRT h_laying.1 h_laying.2 1 (by decide)
                  refine lv_iload hx hb dX3_layNext_114 (lv_at hl 1 rfl) ?_
                  have q_48 : vp_in x4_15 6 := vp_in_iff.mpr ⟨by omega, by omega⟩
                  refine cl_41 hx hb hK hP hm_47.1 hm_47.2 q_48 dX3_layNext_116 ?_
                  refine lv_topi (fun v_49 ev_49 => ?_)
                  refine lv_iadd hx hb dX3_layNext_117 ?_
                  refine lv_topi (fun v_50 ev_50 => ?_)
                  refine lv_iload hx hb dX3_layNext_118 (lv_at hl 0 rfl) ?_
                  refine lv_isub hx hb dX3_layNext_120 ?_
                  refine lv_topi (fun v_51 ev_51 => ?_)
                  have hFc := fr_free hD hS hA
                  refine va_callv (va_runS (As := [.ref laying, .int v_43, .int v_46, .int v_51]) (rest := []) ⟨hx, hb, hml, hown, ht⟩ (l_next6 l G cy _ tq qq wq fo L K R T I15 E_42 J15 B15 laying v_43 v_46 v_51 hRT hI hE h_laying.1 h_laying.2 (by omega)) (va_cwS 4 ht (gs k_745 k_746 k_747 k_744) rfl rfl rfl (by decide +kernel) ⟨Nat.le_of_ble_eq_true rfl, Nat.le_of_ble_eq_true rfl⟩) ⟨EnX.blind, fun U hU hW => ⟨rfl, En.of hU hW hP hK hD hN, XK.of hX hS hFc hU hW⟩⟩ rfl rfl hl.1 rfl (lv_room (Nat.le_of_ble_eq_true rfl)) dX3_layNext_121 ⟨Nat.le_of_ble_eq_true rfl, Nat.le_of_ble_eq_true rfl⟩) hS (fun q _ h => hFc q h) hFc (fun u_52 t9 H locs ht9 hvm hw hB hz1 hk1 hS => ?_)
                  obtain ⟨I52, J52, E52, B52⟩ := u_52
                  obtain ⟨hP1, hD1⟩ := hB
                  rw [ht9] at hP1
                  clear hI hE
                  obtain ⟨hI, hE, xu_52I, wu_52⟩ := hw
                  dsimp only at hI hE xu_52I wu_52
                  have hP : va_P G vwCl (WC cy L K R I52 J52 E52 B52) H := hP1
                  have hD : va_D A (WC cy L K R I52 J52 E52 B52) := hD1.weaken (fun _ _ _ h => hFc _ h)
                  clear hFc hk1 hz1 hP1 hD1
                  replace hC_0 := FI.tr hC_0 xu_52I (by decide)
                  replace hX_15 := FI.tr hX_15 xu_52I (by decide)
                  obtain ⟨v_53, ev_53⟩ : ∃ y : Int32, y = x4_15 + 1 := ⟨_, rfl⟩
                  refine lv_iinc (v := v_53) (lv' := [(4, .int v_53), (5, .int v_40), (0, .ref laying), (1, .int n), (2, .int n2), (3, .int n3)]) hx hb dX3_layNext_124 hl (k := 1) rfl (by rw [ev_53]; rfl) (by decide) rfl (fun ls hl => ?_)
                  have q_54 : v_53.toInt = x4_15.toInt + 1 := by have := ow_add ev_53 (by omega) (by omega); omega
                  refine lv_goto (tgt := 47) hx hb dX3_layNext_127 (by decide) ?_
                  refine W.widen (k := 0) (n := 0) (Nat.le_of_ble_eq_true rfl) (Nat.le_of_ble_eq_true rfl) ?_
                  exact ih_15 v_53 I52 J52 E52 B52 _ _ _ hI hE hX_15 (by omega) (by omega) hP hD hS (lv_sub hl [0, 2, 3, 4, 5] rfl)
                · have q_55 : n.toInt = (0 : Int32).toInt := (ow_eq _ _).mp c_28
                  exfalso
                  omega
        exact lp_15 _ (0) I J E B _ _ _ hI hE FI.rf (by omega) (Nat.lt_succ_self _) hP hD hS (lv_sub hl [0, 1, 2, 3, 4] rfl)
      · have q_56 : (6 : Int32).toInt ≤ n.toInt := by have := (not_congr (ow_lt _ _)).mp c_13; omega
        exfalso
        omega
  · have q_57 : (I laying 6).toInt ≤ n3.toInt := by have := (not_congr (ow_lt _ _)).mp c_1; omega
    refine W.widen (k := 0) (n := 0) (Nat.le_of_ble_eq_true rfl) (Nat.le_of_ble_eq_true rfl) ?_
    exact W.vret hx hb hr (fun t ht9 hW => ⟨⟨(I, J, E, B), rfl, ⟨hI, hE, hC_0, trivial⟩, ⟨by rw [ht9]; exact hP, hD⟩⟩, hS.F ht9⟩) hS.2.2 dX3_layNext_8
set_option maxHeartbeats 4000000 in
set_option maxRecDepth 100000 in
theorem l_next4 (l : Launch) (G : va_G) (cy : Nat → ClassId) (sz : Nat) (tq qq wq : Nat) (fo : Option Nat) (L : List Nat) (K : Nat → Nat) (R : Nat → Nat → Nat) (T : Int) (I E : Nat → Nat → Int32) (J B : Nat → Nat → Int64) (laying : Nat) (n : Int32) (n2 : Int32) (n3 : Int32) (hRT : RT L K R) (hI : IV T L K I) (hE : EV L K E) (h_laying1 : laying ∈ L) (h_laying2 : K laying = 10) (h_n : 4 ≤ n.toInt ∧ n.toInt ≤ 4) : Met l yX3_layNext (.code yX3_layNext cX3_layNext 6 none :: TBg) ({ frames := 4, cells := 0, slots := 0, locals := 256 }) (va_Pc [.ref laying, .int n, .int n2, .int n3] (EnX G cy (WC cy L K R I J E B) sz tq qq wq fo (va_A (WC cy L K R I J E B) sz))) (va_Qv (fun (u : (Nat → Nat → Int32) × (Nat → Nat → Int64) × (Nat → Nat → Int32) × (Nat → Nat → Int64)) => IV T L K u.1 ∧ EV L K u.2.2.1 ∧ FI [(10, 6)] K I u.1 ∧ (True)) (fun u t => Ex G (va_A (WC cy L K R I J E B) sz) (WC cy L K R u.1 u.2.1 u.2.2.1 u.2.2.2) t) (va_A (WC cy L K R I J E B) sz)) 0 0 (va_A (WC cy L K R I J E B) sz) := by
  have h_laying : laying ∈ L ∧ K laying = 10 := ⟨h_laying1, h_laying2⟩
  refine Met.ofW (cc := cX3_layNext) (maxL := 6) (ret := none) (by decide) rfl ?_
  intro p e s m args below meth c s₁ B9 hml hv9
  obtain ⟨rfl, ⟨hsz, hP, hK, hD0, hN⟩, hX⟩ := hv9
  have hx := B9.exec
  have hb := B9.bytes
  have hr := B9.returns
  have hts := atoms_spec (ws := .code yX3_layNext cX3_layNext 6 none :: TBg) B9.pre
  have ht : ∀ w ∈ TBg, w.before _ s = true := fun w h => hts w (List.mem_cons_of_mem _ h)
  have hown : s.vm.findClass RX3 = some m.cls := findClass_of_methodNamed B9.named
  have hlocks := B9.notSynchronized
  subst hsz
  have hD := hD0.self (sz := s.heap.size)
  generalize hAe : va_A (WC cy L K R I J E B) s.heap.size = A at hD hX ⊢
  have hA : ∀ q : Nat, s.heap.size ≤ q → A q := fun q h => by rw [← hAe]; exact Or.inr h
  have hS : va_S A s.heap s.heap [] := va_S.rf
  have hl := lv_entry ([.ref laying, .int n, .int n2, .int n3]) (n := 6) (Nat.le_of_ble_eq_true rfl)
  rw [lg_entry_eq]
  generalize (lg_sl ([.ref laying, .int n, .int n2, .int n3]) ++ List.replicate (6 - (lg_sl ([.ref laying, .int n, .int n2, .int n3])).length) Slot.unset).toArray = ls at hl ⊢
  have hl : lv_has ls 6 [(0, .ref laying), (1, .int n), (2, .int n2), (3, .int n3)] := hl
  have z0 : (0 : Int32).toInt = 0 := by decide
  have z1 : (1 : Int32).toInt = 1 := by decide
  have z2 : (6 : Int32).toInt = 6 := by decide
  have hC_0 : FI [(10, 6)] K I I := FI.rf
  refine lv_iload_n hx hb dX3_layNext_0 rfl (lv_at hl 3 rfl) ?_
  refine lv_aload_n hx hb dX3_layNext_1 rfl (lv_at hl 0 rfl) ?_
  refine cg_10_6_3 hx hb ht hown hK hN hP h_laying.1 h_laying.2 dX3_layNext_2 ?_
  refine lv_icmp_lt (tgt := 9) hx hb dX3_layNext_5 (by decide) (fun c_1 => ?_) (fun c_1 => ?_)
  · have q_2 : n3.toInt < (I laying 6).toInt := (ow_lt _ _).mp c_1
    refine lv_iload_n hx hb dX3_layNext_9 rfl (lv_at hl 1 rfl) ?_
    refine lv_aload_n hx hb dX3_layNext_10 rfl (lv_at hl 0 rfl) ?_
    refine cg_10_2_3 hx hb ht hown hK hN hP h_laying.1 h_laying.2 dX3_layNext_11 ?_
    have q_3 : 0 ≤ (I laying 2).toInt ∧ (I laying 2).toInt ≤ 6 := IV.rd hI h_laying.1 h_laying.2 2
    refine lv_icmp_ge (tgt := 23) hx hb dX3_layNext_14 (by decide) (fun c_4 => ?_) (fun c_4 => ?_)
    · have q_5 : (I laying 2).toInt ≤ n.toInt := (ow_le _ _).mp c_4
      refine lv_aload_n hx hb dX3_layNext_23 rfl (lv_at hl 0 rfl) ?_
      refine lv_iload_n hx hb dX3_layNext_24 rfl (lv_at hl 3 rfl) ?_
      refine cp_10_6_3 hx hb ht hown hK hN hP hD hS h_laying.1 h_laying.2 dX3_layNext_25 (fun H locs hP hD hS => ?_)
      replace hI := IV.up hI h_laying.2 6 (ow_any n3)
      have f_6 : FI [(10, 6)] K I (va_up I laying (va_up (I laying) 6 n3)) := FI.up h_laying.2 6 n3
      have e_7 : (va_up I laying (va_up (I laying) 6 n3)) laying 6 = n3 := FI.at I laying 6 n3
      replace hC_0 := FI.tr hC_0 f_6 (by decide)
      generalize (va_up I laying (va_up (I laying) 6 n3)) = I_8 at hP hD hI f_6 e_7 hC_0
      refine lv_aload_n hx hb dX3_layNext_28 rfl (lv_at hl 0 rfl) ?_
      refine cg_10_4_3 hx hb ht hown hK hN hP h_laying.1 h_laying.2 dX3_layNext_29 ?_
      have hm_9 : (R laying 4) ∈ L ∧ K (R laying 4) = 44 := RT.o hRT h_laying.1 h_laying.2 4 (by decide)
      refine lv_iconst (v := 0) hx hb dX3_layNext_32 (by decide) ?_
      refine lv_aload_n hx hb dX3_layNext_33 rfl (lv_at hl 0 rfl) ?_
      refine cg_10_5_3 hx hb ht hown hK hN hP h_laying.1 h_laying.2 dX3_layNext_34 ?_
      have hm_10 : (R laying 5) ∈ L ∧ K (R laying 5) = 45 := RT.o hRT h_laying.1 h_laying.2 5 (by decide)
      refine lv_iconst (v := 0) hx hb dX3_layNext_37 (by decide) ?_
      refine lv_bipush (v := 6) hx hb dX3_layNext_38 (by decide) ?_
      refine cc_44_45 hx hb (by rw [hml]; exact hl.1.symm) hown (ht _ k_743) (ht _ k_514) (ht _ k_515) (ht _ k_516) hK hP hD hS hm_9.1 hm_9.2 hm_10.1 hm_10.2 (Nat.le_of_ble_eq_true rfl) (Nat.le_of_ble_eq_true rfl) dX3_layNext_40 (fun g9 hg9 H locs hP hD hS => ?_)
      replace hE := EV.set hE hm_10.2 (g := g9) (fun j hj => hg9 j hj ▸ EV.at hE hm_9.1 hm_9.2 j hj)
      generalize (va_up E (R laying 5) g9) = E_11 at hP hD hE
      refine W.widen (k := 0) (n := 0) (Nat.le_of_ble_eq_true rfl) (Nat.le_of_ble_eq_true rfl) ?_
      exact W.vret hx hb hr (fun t ht9 hW => ⟨⟨(I_8, J, E_11, B), rfl, ⟨hI, hE, hC_0, trivial⟩, ⟨by rw [ht9]; exact hP, hD⟩⟩, hS.F ht9⟩) hS.2.2 dX3_layNext_43
    · have q_12 : n.toInt < (I laying 2).toInt := by have := (not_congr (ow_le _ _)).mp c_4; omega
      refine lv_iload_n hx hb dX3_layNext_17 rfl (lv_at hl 1 rfl) ?_
      refine lv_bipush (v := 6) hx hb dX3_layNext_18 (by decide) ?_
      refine lv_icmp_lt (tgt := 44) hx hb dX3_layNext_20 (by decide) (fun c_13 => ?_) (fun c_13 => ?_)
      · have q_14 : n.toInt < (6 : Int32).toInt := (ow_lt _ _).mp c_13
        refine lv_iconst (v := 0) hx hb dX3_layNext_44 (by decide) ?_
        refine lv_istore (lv' := [(4, .int 0), (0, .ref laying), (1, .int n), (2, .int n2), (3, .int n3)]) hx hb dX3_layNext_45 hl (by decide) rfl (fun ls hl => ?_)
        refine W.widen (k := 0) (n := 0) (Nat.le_of_ble_eq_true rfl) (Nat.le_of_ble_eq_true rfl) ?_
        have lp_15 : ∀ (N_15 : Nat) (x4_15 : Int32) (I15 : Nat → Nat → Int32) (J15 : Nat → Nat → Int64) (E15 : Nat → Nat → Int32) (B15 : Nat → Nat → Int64) (H : Heap) (locs : List Loc) (ls : Array Slot), IV T L K I15 → EV L K E15 → FI [(10, 6)] K I I15 → (0 ≤ x4_15.toInt ∧ x4_15.toInt ≤ 6) → (6 - x4_15.toInt).toNat < N_15 → va_P G vwCl (WC cy L K R I15 J15 E15 B15) H → va_D A (WC cy L K R I15 J15 E15 B15) → va_S A s.heap H locs → lv_has ls 6 [(4, .int x4_15), (0, .ref laying), (1, .int n), (2, .int n2), (3, .int n3)] → W p l e (headSpec (.code yX3_layNext cX3_layNext 6 none :: TBg) ({ frames := 4, cells := 0, slots := 0, locals := 256 })).room s m ([.ref laying, .int n, .int n2, .int n3] : List Value).toArray below meth c H locs 0 0 (MQ below (va_Qv (fun (u : (Nat → Nat → Int32) × (Nat → Nat → Int64) × (Nat → Nat → Int32) × (Nat → Nat → Int64)) => IV T L K u.1 ∧ EV L K u.2.2.1 ∧ FI [(10, 6)] K I u.1 ∧ (True)) (fun u t => Ex G A (WC cy L K R u.1 u.2.1 u.2.2.1 u.2.2.2) t) A) ([.ref laying, .int n, .int n2, .int n3] : List Value).toArray s 0 0 A) (F0 m 47 ls []) := by
          intro N_15
          induction N_15 with
          | zero => intro x4_15 I15 J15 E15 B15 H locs ls hI hE hC_15 qf15_0 hm9 hP hD hS hl; exact absurd hm9 (Nat.not_lt_zero _)
          | succ N_15 ih_15 =>
            intro x4_15 I15 J15 E15 B15 H locs ls hI hE hC_15 qf15_0 hm9 hP hD hS hl
            replace hC_0 := FI.tr hC_0 hC_15 (by decide)
            have hX_15 := hC_15
            refine lv_iload hx hb dX3_layNext_47 (lv_at hl 0 rfl) ?_
            refine lv_aload_n hx hb dX3_layNext_49 rfl (lv_at hl 1 rfl) ?_
            refine cg_10_2_3 hx hb ht hown hK hN hP h_laying.1 h_laying.2 dX3_layNext_50 ?_
            refine ow_top (I laying 2) (hC_15 laying 2 (by rw [h_laying.2]; decide)) ?_
            have q_16 : 0 ≤ (I laying 2).toInt ∧ (I laying 2).toInt ≤ 6 := by have h9 : I15 laying 2 = (I laying 2) := (hC_15 laying 2 (by rw [h_laying.2]; decide)); rw [← h9]; exact IV.rd hI h_laying.1 h_laying.2 2
            refine lv_icmp_ge (tgt := 130) hx hb dX3_layNext_53 (by decide) (fun c_17 => ?_) (fun c_17 => ?_)
            · have q_18 : (I laying 2).toInt ≤ x4_15.toInt := (ow_le _ _).mp c_17
              refine W.widen (k := 0) (n := 0) (Nat.le_of_ble_eq_true rfl) (Nat.le_of_ble_eq_true rfl) ?_
              exact W.vret hx hb hr (fun t ht9 hW => ⟨⟨(I15, J15, E15, B15), rfl, ⟨hI, hE, hC_0, trivial⟩, ⟨by rw [ht9]; exact hP, hD⟩⟩, hS.F ht9⟩) hS.2.2 dX3_layNext_130
            · have q_19 : x4_15.toInt < (I laying 2).toInt := by have := (not_congr (ow_le _ _)).mp c_17; omega
              refine lv_iload_n hx hb dX3_layNext_56 rfl (lv_at hl 3 rfl) ?_
              refine lv_iload hx hb dX3_layNext_57 (lv_at hl 0 rfl) ?_
              refine lv_ishr hx hb dX3_layNext_59 ?_
              refine lv_topi (fun v_20 ev_20 => ?_)
              refine lv_iconst (v := 1) hx hb dX3_layNext_60 (by decide) ?_
              refine lv_iand hx hb dX3_layNext_61 ?_
              refine lv_topi (fun v_21 ev_21 => ?_)
              have q_22 : 0 ≤ v_21.toInt ∧ v_21.toInt ≤ 1 := by rw [ev_21]; exact ow_and1 _
              refine lv_if_ne (tgt := 124) hx hb dX3_layNext_62 (by decide) (fun c_23 => ?_) (fun c_23 => ?_)
              · have q_24 : ¬ v_21.toInt = (0 : Int32).toInt := by have := (not_congr (ow_eq _ _)).mp c_23; omega
                obtain ⟨v_25, ev_25⟩ : ∃ y : Int32, y = x4_15 + 1 := ⟨_, rfl⟩
                refine lv_iinc (v := v_25) (lv' := [(4, .int v_25), (0, .ref laying), (1, .int n), (2, .int n2), (3, .int n3)]) hx hb dX3_layNext_124 hl (k := 0) rfl (by rw [ev_25]; rfl) (by decide) rfl (fun ls hl => ?_)
                have q_26 : v_25.toInt = x4_15.toInt + 1 := by have := ow_add ev_25 (by omega) (by omega); omega
                refine lv_goto (tgt := 47) hx hb dX3_layNext_127 (by decide) ?_
                refine W.widen (k := 0) (n := 0) (Nat.le_of_ble_eq_true rfl) (Nat.le_of_ble_eq_true rfl) ?_
                exact ih_15 v_25 I15 J15 E15 B15 _ _ _ hI hE hX_15 (by omega) (by omega) hP hD hS (lv_sub hl [0, 1, 2, 3, 4] rfl)
              · have q_27 : v_21.toInt = (0 : Int32).toInt := (ow_eq _ _).mp c_23
                refine lv_iload_n hx hb dX3_layNext_65 rfl (lv_at hl 2 rfl) ?_
                refine lv_if_ne (tgt := 73) hx hb dX3_layNext_66 (by decide) (fun c_28 => ?_) (fun c_28 => ?_)
                · have q_29 : ¬ n.toInt = (0 : Int32).toInt := by have := (not_congr (ow_eq _ _)).mp c_28; omega
                  refine lv_aload_n hx hb dX3_layNext_73 rfl (lv_at hl 1 rfl) ?_
                  refine cg_10_3_3 hx hb ht hown hK hN hP h_laying.1 h_laying.2 dX3_layNext_74 ?_
                  have hm_30 : (R laying 3) ∈ L ∧ K (R laying 3) = 42 := RT.o hRT h_laying.1 h_laying.2 3 (by decide)
                  refine lv_aload_n hx hb dX3_layNext_77 rfl (lv_at hl 1 rfl) ?_
                  refine cg_10_4_3 hx hb ht hown hK hN hP h_laying.1 h_laying.2 dX3_layNext_78 ?_
                  have hm_31 : (R laying 4) ∈ L ∧ K (R laying 4) = 44 := RT.o hRT h_laying.1 h_laying.2 4 (by decide)
                  refine lv_iload_n hx hb dX3_layNext_81 rfl (lv_at hl 2 rfl) ?_
                  refine lv_iconst (v := 1) hx hb dX3_layNext_82 (by decide) ?_
                  refine lv_isub hx hb dX3_layNext_83 ?_
                  refine lv_topi (fun v_32 ev_32 => ?_)
                  have q_33 : v_32.toInt = n.toInt - (1 : Int32).toInt := ow_sub ev_32 (by omega) (by omega)
                  have q_34 : vp_in v_32 6 := vp_in_iff.mpr ⟨by omega, by omega⟩
                  refine cl_44 hx hb hK hP hm_31.1 hm_31.2 q_34 dX3_layNext_84 ?_
                  refine lv_topi (fun v_35 ev_35 => ?_)
                  have q_36 : 0 ≤ v_35.toInt ∧ v_35.toInt ≤ 5 := by rw [ev_35]; exact EV.rd hE hm_31.1 hm_31.2 q_34
                  have q_37 : vp_in v_35 6 := vp_in_iff.mpr ⟨by omega, by omega⟩
                  refine cl_42 hx hb hX.2.2 hP hm_30.1 hm_30.2 q_37 dX3_layNext_85 ?_
                  have hm_38 : (R (R laying 3) (Int32.toNatClampNeg v_35)) ∈ L ∧ K (R (R laying 3) (Int32.toNatClampNeg v_35)) = 43 := RT.a hRT hm_30.1 hm_30.2 (by decide) q_37
                  refine lv_iload hx hb dX3_layNext_86 (lv_at hl 0 rfl) ?_
                  have q_39 : vp_in x4_15 6 := vp_in_iff.mpr ⟨by omega, by omega⟩
                  refine cl_43 hx hb hK hP hm_38.1 hm_38.2 q_39 dX3_layNext_88 ?_
                  refine lv_topi (fun v_40 ev_40 => ?_)
                  refine lv_istore (lv' := [(5, .int v_40), (4, .int x4_15), (0, .ref laying), (1, .int n), (2, .int n2), (3, .int n3)]) hx hb dX3_layNext_89 hl (by decide) rfl (fun ls hl => ?_)
                  refine lv_aload_n hx hb dX3_layNext_91 rfl (lv_at hl 2 rfl) ?_
                  refine cg_10_4_3 hx hb ht hown hK hN hP h_laying.1 h_laying.2 dX3_layNext_92 ?_
                  refine lv_iload_n hx hb dX3_layNext_95 rfl (lv_at hl 3 rfl) ?_
                  refine lv_iload hx hb dX3_layNext_96 (lv_at hl 1 rfl) ?_
                  have q_41 : vp_in n 6 := vp_in_iff.mpr ⟨by omega, by omega⟩
                  refine cs_44 hx hb hK hP hD hS hm_31.1 hm_31.2 q_41 dX3_layNext_98 (fun H locs hP hD hS => ?_)
                  replace hE := EV.up hE hm_31.2 (i := (Int32.toNatClampNeg n)) (show 0 ≤ x4_15.toInt ∧ x4_15.toInt ≤ 5 from by omega)
                  generalize (va_up E15 (R laying 4) (upd (E15 (R laying 4)) (Int32.toNatClampNeg n) x4_15)) = E_42 at hP hD hE
                  refine lv_aload_n hx hb dX3_layNext_99 rfl (lv_at hl 2 rfl) ?_
                  refine lv_iload_n hx hb dX3_layNext_100 rfl (lv_at hl 3 rfl) ?_
                  refine lv_iconst (v := 1) hx hb dX3_layNext_101 (by decide) ?_
                  refine lv_iadd hx hb dX3_layNext_102 ?_
                  refine lv_topi (fun v_43 ev_43 => ?_)
                  have q_44 : v_43.toInt = n.toInt + (1 : Int32).toInt := ow_add ev_43 (by omega) (by omega)
                  refine lv_iload_n hx hb dX3_layNext_103 rfl (lv_at hl 4 rfl) ?_
                  refine lv_iconst (v := 1) hx hb dX3_layNext_104 (by decide) ?_
                  refine lv_iload hx hb dX3_layNext_105 (lv_at hl 1 rfl) ?_
                  refine lv_ishl hx hb dX3_layNext_107 ?_
                  refine lv_topi (fun v_45 ev_45 => ?_)
                  refine lv_ior hx hb dX3_layNext_108 ?_
                  refine lv_topi (fun v_46 ev_46 => ?_)
                  refine lv_iload_n hx hb dX3_layNext_109 rfl (lv_at hl 5 rfl) ?_
                  refine lv_aload_n hx hb dX3_layNext_110 rfl (lv_at hl 2 rfl) ?_
                  refine cg_10_1_3 hx hb ht hown hK hN hP h_laying.1 h_laying.2 dX3_layNext_111 ?_
                  have hm_47 : (R laying 1) ∈ L ∧ K (R laying 1) = 41 := RT.o hRT h_laying.1 h_laying.2 1 (by decide)
                  refine lv_iload hx hb dX3_layNext_114 (lv_at hl 1 rfl) ?_
                  have q_48 : vp_in x4_15 6 := vp_in_iff.mpr ⟨by omega, by omega⟩
                  refine cl_41 hx hb hK hP hm_47.1 hm_47.2 q_48 dX3_layNext_116 ?_
                  refine lv_topi (fun v_49 ev_49 => ?_)
                  refine lv_iadd hx hb dX3_layNext_117 ?_
                  refine lv_topi (fun v_50 ev_50 => ?_)
                  refine lv_iload hx hb dX3_layNext_118 (lv_at hl 0 rfl) ?_
                  refine lv_isub hx hb dX3_layNext_120 ?_
                  refine lv_topi (fun v_51 ev_51 => ?_)
                  have hFc := fr_free hD hS hA
                  refine va_callv (va_runS (As := [.ref laying, .int v_43, .int v_46, .int v_51]) (rest := []) ⟨hx, hb, hml, hown, ht⟩ (l_next5 l G cy _ tq qq wq fo L K R T I15 E_42 J15 B15 laying v_43 v_46 v_51 hRT hI hE h_laying.1 h_laying.2 (by omega)) (va_cwS 4 ht (gs k_745 k_746 k_747 k_744) rfl rfl rfl (by decide +kernel) ⟨Nat.le_of_ble_eq_true rfl, Nat.le_of_ble_eq_true rfl⟩) ⟨EnX.blind, fun U hU hW => ⟨rfl, En.of hU hW hP hK hD hN, XK.of hX hS hFc hU hW⟩⟩ rfl rfl hl.1 rfl (lv_room (Nat.le_of_ble_eq_true rfl)) dX3_layNext_121 ⟨Nat.le_of_ble_eq_true rfl, Nat.le_of_ble_eq_true rfl⟩) hS (fun q _ h => hFc q h) hFc (fun u_52 t9 H locs ht9 hvm hw hB hz1 hk1 hS => ?_)
                  obtain ⟨I52, J52, E52, B52⟩ := u_52
                  obtain ⟨hP1, hD1⟩ := hB
                  rw [ht9] at hP1
                  clear hI hE
                  obtain ⟨hI, hE, xu_52I, wu_52⟩ := hw
                  dsimp only at hI hE xu_52I wu_52
                  have hP : va_P G vwCl (WC cy L K R I52 J52 E52 B52) H := hP1
                  have hD : va_D A (WC cy L K R I52 J52 E52 B52) := hD1.weaken (fun _ _ _ h => hFc _ h)
                  clear hFc hk1 hz1 hP1 hD1
                  replace hC_0 := FI.tr hC_0 xu_52I (by decide)
                  replace hX_15 := FI.tr hX_15 xu_52I (by decide)
                  obtain ⟨v_53, ev_53⟩ : ∃ y : Int32, y = x4_15 + 1 := ⟨_, rfl⟩
                  refine lv_iinc (v := v_53) (lv' := [(4, .int v_53), (5, .int v_40), (0, .ref laying), (1, .int n), (2, .int n2), (3, .int n3)]) hx hb dX3_layNext_124 hl (k := 1) rfl (by rw [ev_53]; rfl) (by decide) rfl (fun ls hl => ?_)
                  have q_54 : v_53.toInt = x4_15.toInt + 1 := by have := ow_add ev_53 (by omega) (by omega); omega
                  refine lv_goto (tgt := 47) hx hb dX3_layNext_127 (by decide) ?_
                  refine W.widen (k := 0) (n := 0) (Nat.le_of_ble_eq_true rfl) (Nat.le_of_ble_eq_true rfl) ?_
                  exact ih_15 v_53 I52 J52 E52 B52 _ _ _ hI hE hX_15 (by omega) (by omega) hP hD hS (lv_sub hl [0, 2, 3, 4, 5] rfl)
                · have q_55 : n.toInt = (0 : Int32).toInt := (ow_eq _ _).mp c_28
                  exfalso
                  omega
        exact lp_15 _ (0) I J E B _ _ _ hI hE FI.rf (by omega) (Nat.lt_succ_self _) hP hD hS (lv_sub hl [0, 1, 2, 3, 4] rfl)
      · have q_56 : (6 : Int32).toInt ≤ n.toInt := by have := (not_congr (ow_lt _ _)).mp c_13; omega
        exfalso
        omega
  · have q_57 : (I laying 6).toInt ≤ n3.toInt := by have := (not_congr (ow_lt _ _)).mp c_1; omega
    refine W.widen (k := 0) (n := 0) (Nat.le_of_ble_eq_true rfl) (Nat.le_of_ble_eq_true rfl) ?_
    exact W.vret hx hb hr (fun t ht9 hW => ⟨⟨(I, J, E, B), rfl, ⟨hI, hE, hC_0, trivial⟩, ⟨by rw [ht9]; exact hP, hD⟩⟩, hS.F ht9⟩) hS.2.2 dX3_layNext_8
set_option maxHeartbeats 4000000 in
set_option maxRecDepth 100000 in
theorem l_next3 (l : Launch) (G : va_G) (cy : Nat → ClassId) (sz : Nat) (tq qq wq : Nat) (fo : Option Nat) (L : List Nat) (K : Nat → Nat) (R : Nat → Nat → Nat) (T : Int) (I E : Nat → Nat → Int32) (J B : Nat → Nat → Int64) (laying : Nat) (n : Int32) (n2 : Int32) (n3 : Int32) (hRT : RT L K R) (hI : IV T L K I) (hE : EV L K E) (h_laying1 : laying ∈ L) (h_laying2 : K laying = 10) (h_n : 3 ≤ n.toInt ∧ n.toInt ≤ 3) : Met l yX3_layNext (.code yX3_layNext cX3_layNext 6 none :: TBg) ({ frames := 5, cells := 0, slots := 0, locals := 320 }) (va_Pc [.ref laying, .int n, .int n2, .int n3] (EnX G cy (WC cy L K R I J E B) sz tq qq wq fo (va_A (WC cy L K R I J E B) sz))) (va_Qv (fun (u : (Nat → Nat → Int32) × (Nat → Nat → Int64) × (Nat → Nat → Int32) × (Nat → Nat → Int64)) => IV T L K u.1 ∧ EV L K u.2.2.1 ∧ FI [(10, 6)] K I u.1 ∧ (True)) (fun u t => Ex G (va_A (WC cy L K R I J E B) sz) (WC cy L K R u.1 u.2.1 u.2.2.1 u.2.2.2) t) (va_A (WC cy L K R I J E B) sz)) 0 0 (va_A (WC cy L K R I J E B) sz) := by
  have h_laying : laying ∈ L ∧ K laying = 10 := ⟨h_laying1, h_laying2⟩
  refine Met.ofW (cc := cX3_layNext) (maxL := 6) (ret := none) (by decide) rfl ?_
  intro p e s m args below meth c s₁ B9 hml hv9
  obtain ⟨rfl, ⟨hsz, hP, hK, hD0, hN⟩, hX⟩ := hv9
  have hx := B9.exec
  have hb := B9.bytes
  have hr := B9.returns
  have hts := atoms_spec (ws := .code yX3_layNext cX3_layNext 6 none :: TBg) B9.pre
  have ht : ∀ w ∈ TBg, w.before _ s = true := fun w h => hts w (List.mem_cons_of_mem _ h)
  have hown : s.vm.findClass RX3 = some m.cls := findClass_of_methodNamed B9.named
  have hlocks := B9.notSynchronized
  subst hsz
  have hD := hD0.self (sz := s.heap.size)
  generalize hAe : va_A (WC cy L K R I J E B) s.heap.size = A at hD hX ⊢
  have hA : ∀ q : Nat, s.heap.size ≤ q → A q := fun q h => by rw [← hAe]; exact Or.inr h
  have hS : va_S A s.heap s.heap [] := va_S.rf
  have hl := lv_entry ([.ref laying, .int n, .int n2, .int n3]) (n := 6) (Nat.le_of_ble_eq_true rfl)
  rw [lg_entry_eq]
  generalize (lg_sl ([.ref laying, .int n, .int n2, .int n3]) ++ List.replicate (6 - (lg_sl ([.ref laying, .int n, .int n2, .int n3])).length) Slot.unset).toArray = ls at hl ⊢
  have hl : lv_has ls 6 [(0, .ref laying), (1, .int n), (2, .int n2), (3, .int n3)] := hl
  have z0 : (0 : Int32).toInt = 0 := by decide
  have z1 : (1 : Int32).toInt = 1 := by decide
  have z2 : (6 : Int32).toInt = 6 := by decide
  have hC_0 : FI [(10, 6)] K I I := FI.rf
  refine lv_iload_n hx hb dX3_layNext_0 rfl (lv_at hl 3 rfl) ?_
  refine lv_aload_n hx hb dX3_layNext_1 rfl (lv_at hl 0 rfl) ?_
  refine cg_10_6_3 hx hb ht hown hK hN hP h_laying.1 h_laying.2 dX3_layNext_2 ?_
  refine lv_icmp_lt (tgt := 9) hx hb dX3_layNext_5 (by decide) (fun c_1 => ?_) (fun c_1 => ?_)
  · have q_2 : n3.toInt < (I laying 6).toInt := (ow_lt _ _).mp c_1
    refine lv_iload_n hx hb dX3_layNext_9 rfl (lv_at hl 1 rfl) ?_
    refine lv_aload_n hx hb dX3_layNext_10 rfl (lv_at hl 0 rfl) ?_
    refine cg_10_2_3 hx hb ht hown hK hN hP h_laying.1 h_laying.2 dX3_layNext_11 ?_
    have q_3 : 0 ≤ (I laying 2).toInt ∧ (I laying 2).toInt ≤ 6 := IV.rd hI h_laying.1 h_laying.2 2
    refine lv_icmp_ge (tgt := 23) hx hb dX3_layNext_14 (by decide) (fun c_4 => ?_) (fun c_4 => ?_)
    · have q_5 : (I laying 2).toInt ≤ n.toInt := (ow_le _ _).mp c_4
      refine lv_aload_n hx hb dX3_layNext_23 rfl (lv_at hl 0 rfl) ?_
      refine lv_iload_n hx hb dX3_layNext_24 rfl (lv_at hl 3 rfl) ?_
      refine cp_10_6_3 hx hb ht hown hK hN hP hD hS h_laying.1 h_laying.2 dX3_layNext_25 (fun H locs hP hD hS => ?_)
      replace hI := IV.up hI h_laying.2 6 (ow_any n3)
      have f_6 : FI [(10, 6)] K I (va_up I laying (va_up (I laying) 6 n3)) := FI.up h_laying.2 6 n3
      have e_7 : (va_up I laying (va_up (I laying) 6 n3)) laying 6 = n3 := FI.at I laying 6 n3
      replace hC_0 := FI.tr hC_0 f_6 (by decide)
      generalize (va_up I laying (va_up (I laying) 6 n3)) = I_8 at hP hD hI f_6 e_7 hC_0
      refine lv_aload_n hx hb dX3_layNext_28 rfl (lv_at hl 0 rfl) ?_
      refine cg_10_4_3 hx hb ht hown hK hN hP h_laying.1 h_laying.2 dX3_layNext_29 ?_
      have hm_9 : (R laying 4) ∈ L ∧ K (R laying 4) = 44 := RT.o hRT h_laying.1 h_laying.2 4 (by decide)
      refine lv_iconst (v := 0) hx hb dX3_layNext_32 (by decide) ?_
      refine lv_aload_n hx hb dX3_layNext_33 rfl (lv_at hl 0 rfl) ?_
      refine cg_10_5_3 hx hb ht hown hK hN hP h_laying.1 h_laying.2 dX3_layNext_34 ?_
      have hm_10 : (R laying 5) ∈ L ∧ K (R laying 5) = 45 := RT.o hRT h_laying.1 h_laying.2 5 (by decide)
      refine lv_iconst (v := 0) hx hb dX3_layNext_37 (by decide) ?_
      refine lv_bipush (v := 6) hx hb dX3_layNext_38 (by decide) ?_
      refine cc_44_45 hx hb (by rw [hml]; exact hl.1.symm) hown (ht _ k_743) (ht _ k_514) (ht _ k_515) (ht _ k_516) hK hP hD hS hm_9.1 hm_9.2 hm_10.1 hm_10.2 (Nat.le_of_ble_eq_true rfl) (Nat.le_of_ble_eq_true rfl) dX3_layNext_40 (fun g9 hg9 H locs hP hD hS => ?_)
      replace hE := EV.set hE hm_10.2 (g := g9) (fun j hj => hg9 j hj ▸ EV.at hE hm_9.1 hm_9.2 j hj)
      generalize (va_up E (R laying 5) g9) = E_11 at hP hD hE
      refine W.widen (k := 0) (n := 0) (Nat.le_of_ble_eq_true rfl) (Nat.le_of_ble_eq_true rfl) ?_
      exact W.vret hx hb hr (fun t ht9 hW => ⟨⟨(I_8, J, E_11, B), rfl, ⟨hI, hE, hC_0, trivial⟩, ⟨by rw [ht9]; exact hP, hD⟩⟩, hS.F ht9⟩) hS.2.2 dX3_layNext_43
    · have q_12 : n.toInt < (I laying 2).toInt := by have := (not_congr (ow_le _ _)).mp c_4; omega
      refine lv_iload_n hx hb dX3_layNext_17 rfl (lv_at hl 1 rfl) ?_
      refine lv_bipush (v := 6) hx hb dX3_layNext_18 (by decide) ?_
      refine lv_icmp_lt (tgt := 44) hx hb dX3_layNext_20 (by decide) (fun c_13 => ?_) (fun c_13 => ?_)
      · have q_14 : n.toInt < (6 : Int32).toInt := (ow_lt _ _).mp c_13
        refine lv_iconst (v := 0) hx hb dX3_layNext_44 (by decide) ?_
        refine lv_istore (lv' := [(4, .int 0), (0, .ref laying), (1, .int n), (2, .int n2), (3, .int n3)]) hx hb dX3_layNext_45 hl (by decide) rfl (fun ls hl => ?_)
        refine W.widen (k := 0) (n := 0) (Nat.le_of_ble_eq_true rfl) (Nat.le_of_ble_eq_true rfl) ?_
        have lp_15 : ∀ (N_15 : Nat) (x4_15 : Int32) (I15 : Nat → Nat → Int32) (J15 : Nat → Nat → Int64) (E15 : Nat → Nat → Int32) (B15 : Nat → Nat → Int64) (H : Heap) (locs : List Loc) (ls : Array Slot), IV T L K I15 → EV L K E15 → FI [(10, 6)] K I I15 → (0 ≤ x4_15.toInt ∧ x4_15.toInt ≤ 6) → (6 - x4_15.toInt).toNat < N_15 → va_P G vwCl (WC cy L K R I15 J15 E15 B15) H → va_D A (WC cy L K R I15 J15 E15 B15) → va_S A s.heap H locs → lv_has ls 6 [(4, .int x4_15), (0, .ref laying), (1, .int n), (2, .int n2), (3, .int n3)] → W p l e (headSpec (.code yX3_layNext cX3_layNext 6 none :: TBg) ({ frames := 5, cells := 0, slots := 0, locals := 320 })).room s m ([.ref laying, .int n, .int n2, .int n3] : List Value).toArray below meth c H locs 0 0 (MQ below (va_Qv (fun (u : (Nat → Nat → Int32) × (Nat → Nat → Int64) × (Nat → Nat → Int32) × (Nat → Nat → Int64)) => IV T L K u.1 ∧ EV L K u.2.2.1 ∧ FI [(10, 6)] K I u.1 ∧ (True)) (fun u t => Ex G A (WC cy L K R u.1 u.2.1 u.2.2.1 u.2.2.2) t) A) ([.ref laying, .int n, .int n2, .int n3] : List Value).toArray s 0 0 A) (F0 m 47 ls []) := by
          intro N_15
          induction N_15 with
          | zero => intro x4_15 I15 J15 E15 B15 H locs ls hI hE hC_15 qf15_0 hm9 hP hD hS hl; exact absurd hm9 (Nat.not_lt_zero _)
          | succ N_15 ih_15 =>
            intro x4_15 I15 J15 E15 B15 H locs ls hI hE hC_15 qf15_0 hm9 hP hD hS hl
            replace hC_0 := FI.tr hC_0 hC_15 (by decide)
            have hX_15 := hC_15
            refine lv_iload hx hb dX3_layNext_47 (lv_at hl 0 rfl) ?_
            refine lv_aload_n hx hb dX3_layNext_49 rfl (lv_at hl 1 rfl) ?_
            refine cg_10_2_3 hx hb ht hown hK hN hP h_laying.1 h_laying.2 dX3_layNext_50 ?_
            refine ow_top (I laying 2) (hC_15 laying 2 (by rw [h_laying.2]; decide)) ?_
            have q_16 : 0 ≤ (I laying 2).toInt ∧ (I laying 2).toInt ≤ 6 := by have h9 : I15 laying 2 = (I laying 2) := (hC_15 laying 2 (by rw [h_laying.2]; decide)); rw [← h9]; exact IV.rd hI h_laying.1 h_laying.2 2
            refine lv_icmp_ge (tgt := 130) hx hb dX3_layNext_53 (by decide) (fun c_17 => ?_) (fun c_17 => ?_)
            · have q_18 : (I laying 2).toInt ≤ x4_15.toInt := (ow_le _ _).mp c_17
              refine W.widen (k := 0) (n := 0) (Nat.le_of_ble_eq_true rfl) (Nat.le_of_ble_eq_true rfl) ?_
              exact W.vret hx hb hr (fun t ht9 hW => ⟨⟨(I15, J15, E15, B15), rfl, ⟨hI, hE, hC_0, trivial⟩, ⟨by rw [ht9]; exact hP, hD⟩⟩, hS.F ht9⟩) hS.2.2 dX3_layNext_130
            · have q_19 : x4_15.toInt < (I laying 2).toInt := by have := (not_congr (ow_le _ _)).mp c_17; omega
              refine lv_iload_n hx hb dX3_layNext_56 rfl (lv_at hl 3 rfl) ?_
              refine lv_iload hx hb dX3_layNext_57 (lv_at hl 0 rfl) ?_
              refine lv_ishr hx hb dX3_layNext_59 ?_
              refine lv_topi (fun v_20 ev_20 => ?_)
              refine lv_iconst (v := 1) hx hb dX3_layNext_60 (by decide) ?_
              refine lv_iand hx hb dX3_layNext_61 ?_
              refine lv_topi (fun v_21 ev_21 => ?_)
              have q_22 : 0 ≤ v_21.toInt ∧ v_21.toInt ≤ 1 := by rw [ev_21]; exact ow_and1 _
              refine lv_if_ne (tgt := 124) hx hb dX3_layNext_62 (by decide) (fun c_23 => ?_) (fun c_23 => ?_)
              · have q_24 : ¬ v_21.toInt = (0 : Int32).toInt := by have := (not_congr (ow_eq _ _)).mp c_23; omega
                obtain ⟨v_25, ev_25⟩ : ∃ y : Int32, y = x4_15 + 1 := ⟨_, rfl⟩
                refine lv_iinc (v := v_25) (lv' := [(4, .int v_25), (0, .ref laying), (1, .int n), (2, .int n2), (3, .int n3)]) hx hb dX3_layNext_124 hl (k := 0) rfl (by rw [ev_25]; rfl) (by decide) rfl (fun ls hl => ?_)
                have q_26 : v_25.toInt = x4_15.toInt + 1 := by have := ow_add ev_25 (by omega) (by omega); omega
                refine lv_goto (tgt := 47) hx hb dX3_layNext_127 (by decide) ?_
                refine W.widen (k := 0) (n := 0) (Nat.le_of_ble_eq_true rfl) (Nat.le_of_ble_eq_true rfl) ?_
                exact ih_15 v_25 I15 J15 E15 B15 _ _ _ hI hE hX_15 (by omega) (by omega) hP hD hS (lv_sub hl [0, 1, 2, 3, 4] rfl)
              · have q_27 : v_21.toInt = (0 : Int32).toInt := (ow_eq _ _).mp c_23
                refine lv_iload_n hx hb dX3_layNext_65 rfl (lv_at hl 2 rfl) ?_
                refine lv_if_ne (tgt := 73) hx hb dX3_layNext_66 (by decide) (fun c_28 => ?_) (fun c_28 => ?_)
                · have q_29 : ¬ n.toInt = (0 : Int32).toInt := by have := (not_congr (ow_eq _ _)).mp c_28; omega
                  refine lv_aload_n hx hb dX3_layNext_73 rfl (lv_at hl 1 rfl) ?_
                  refine cg_10_3_3 hx hb ht hown hK hN hP h_laying.1 h_laying.2 dX3_layNext_74 ?_
                  have hm_30 : (R laying 3) ∈ L ∧ K (R laying 3) = 42 := RT.o hRT h_laying.1 h_laying.2 3 (by decide)
                  refine lv_aload_n hx hb dX3_layNext_77 rfl (lv_at hl 1 rfl) ?_
                  refine cg_10_4_3 hx hb ht hown hK hN hP h_laying.1 h_laying.2 dX3_layNext_78 ?_
                  have hm_31 : (R laying 4) ∈ L ∧ K (R laying 4) = 44 := RT.o hRT h_laying.1 h_laying.2 4 (by decide)
                  refine lv_iload_n hx hb dX3_layNext_81 rfl (lv_at hl 2 rfl) ?_
                  refine lv_iconst (v := 1) hx hb dX3_layNext_82 (by decide) ?_
                  refine lv_isub hx hb dX3_layNext_83 ?_
                  refine lv_topi (fun v_32 ev_32 => ?_)
                  have q_33 : v_32.toInt = n.toInt - (1 : Int32).toInt := ow_sub ev_32 (by omega) (by omega)
                  have q_34 : vp_in v_32 6 := vp_in_iff.mpr ⟨by omega, by omega⟩
                  refine cl_44 hx hb hK hP hm_31.1 hm_31.2 q_34 dX3_layNext_84 ?_
                  refine lv_topi (fun v_35 ev_35 => ?_)
                  have q_36 : 0 ≤ v_35.toInt ∧ v_35.toInt ≤ 5 := by rw [ev_35]; exact EV.rd hE hm_31.1 hm_31.2 q_34
                  have q_37 : vp_in v_35 6 := vp_in_iff.mpr ⟨by omega, by omega⟩
                  refine cl_42 hx hb hX.2.2 hP hm_30.1 hm_30.2 q_37 dX3_layNext_85 ?_
                  have hm_38 : (R (R laying 3) (Int32.toNatClampNeg v_35)) ∈ L ∧ K (R (R laying 3) (Int32.toNatClampNeg v_35)) = 43 := RT.a hRT hm_30.1 hm_30.2 (by decide) q_37
                  refine lv_iload hx hb dX3_layNext_86 (lv_at hl 0 rfl) ?_
                  have q_39 : vp_in x4_15 6 := vp_in_iff.mpr ⟨by omega, by omega⟩
                  refine cl_43 hx hb hK hP hm_38.1 hm_38.2 q_39 dX3_layNext_88 ?_
                  refine lv_topi (fun v_40 ev_40 => ?_)
                  refine lv_istore (lv' := [(5, .int v_40), (4, .int x4_15), (0, .ref laying), (1, .int n), (2, .int n2), (3, .int n3)]) hx hb dX3_layNext_89 hl (by decide) rfl (fun ls hl => ?_)
                  refine lv_aload_n hx hb dX3_layNext_91 rfl (lv_at hl 2 rfl) ?_
                  refine cg_10_4_3 hx hb ht hown hK hN hP h_laying.1 h_laying.2 dX3_layNext_92 ?_
                  refine lv_iload_n hx hb dX3_layNext_95 rfl (lv_at hl 3 rfl) ?_
                  refine lv_iload hx hb dX3_layNext_96 (lv_at hl 1 rfl) ?_
                  have q_41 : vp_in n 6 := vp_in_iff.mpr ⟨by omega, by omega⟩
                  refine cs_44 hx hb hK hP hD hS hm_31.1 hm_31.2 q_41 dX3_layNext_98 (fun H locs hP hD hS => ?_)
                  replace hE := EV.up hE hm_31.2 (i := (Int32.toNatClampNeg n)) (show 0 ≤ x4_15.toInt ∧ x4_15.toInt ≤ 5 from by omega)
                  generalize (va_up E15 (R laying 4) (upd (E15 (R laying 4)) (Int32.toNatClampNeg n) x4_15)) = E_42 at hP hD hE
                  refine lv_aload_n hx hb dX3_layNext_99 rfl (lv_at hl 2 rfl) ?_
                  refine lv_iload_n hx hb dX3_layNext_100 rfl (lv_at hl 3 rfl) ?_
                  refine lv_iconst (v := 1) hx hb dX3_layNext_101 (by decide) ?_
                  refine lv_iadd hx hb dX3_layNext_102 ?_
                  refine lv_topi (fun v_43 ev_43 => ?_)
                  have q_44 : v_43.toInt = n.toInt + (1 : Int32).toInt := ow_add ev_43 (by omega) (by omega)
                  refine lv_iload_n hx hb dX3_layNext_103 rfl (lv_at hl 4 rfl) ?_
                  refine lv_iconst (v := 1) hx hb dX3_layNext_104 (by decide) ?_
                  refine lv_iload hx hb dX3_layNext_105 (lv_at hl 1 rfl) ?_
                  refine lv_ishl hx hb dX3_layNext_107 ?_
                  refine lv_topi (fun v_45 ev_45 => ?_)
                  refine lv_ior hx hb dX3_layNext_108 ?_
                  refine lv_topi (fun v_46 ev_46 => ?_)
                  refine lv_iload_n hx hb dX3_layNext_109 rfl (lv_at hl 5 rfl) ?_
                  refine lv_aload_n hx hb dX3_layNext_110 rfl (lv_at hl 2 rfl) ?_
                  refine cg_10_1_3 hx hb ht hown hK hN hP h_laying.1 h_laying.2 dX3_layNext_111 ?_
                  have hm_47 : (R laying 1) ∈ L ∧ K (R laying 1) = 41 := RT.o hRT h_laying.1 h_laying.2 1 (by decide)
                  refine lv_iload hx hb dX3_layNext_114 (lv_at hl 1 rfl) ?_
                  have q_48 : vp_in x4_15 6 := vp_in_iff.mpr ⟨by omega, by omega⟩
                  refine cl_41 hx hb hK hP hm_47.1 hm_47.2 q_48 dX3_layNext_116 ?_
                  refine lv_topi (fun v_49 ev_49 => ?_)
                  refine lv_iadd hx hb dX3_layNext_117 ?_
                  refine lv_topi (fun v_50 ev_50 => ?_)
                  refine lv_iload hx hb dX3_layNext_118 (lv_at hl 0 rfl) ?_
                  refine lv_isub hx hb dX3_layNext_120 ?_
                  refine lv_topi (fun v_51 ev_51 => ?_)
                  have hFc := fr_free hD hS hA
                  refine va_callv (va_runS (As := [.ref laying, .int v_43, .int v_46, .int v_51]) (rest := []) ⟨hx, hb, hml, hown, ht⟩ (l_next4 l G cy _ tq qq wq fo L K R T I15 E_42 J15 B15 laying v_43 v_46 v_51 hRT hI hE h_laying.1 h_laying.2 (by omega)) (va_cwS 4 ht (gs k_745 k_746 k_747 k_744) rfl rfl rfl (by decide +kernel) ⟨Nat.le_of_ble_eq_true rfl, Nat.le_of_ble_eq_true rfl⟩) ⟨EnX.blind, fun U hU hW => ⟨rfl, En.of hU hW hP hK hD hN, XK.of hX hS hFc hU hW⟩⟩ rfl rfl hl.1 rfl (lv_room (Nat.le_of_ble_eq_true rfl)) dX3_layNext_121 ⟨Nat.le_of_ble_eq_true rfl, Nat.le_of_ble_eq_true rfl⟩) hS (fun q _ h => hFc q h) hFc (fun u_52 t9 H locs ht9 hvm hw hB hz1 hk1 hS => ?_)
                  obtain ⟨I52, J52, E52, B52⟩ := u_52
                  obtain ⟨hP1, hD1⟩ := hB
                  rw [ht9] at hP1
                  clear hI hE
                  obtain ⟨hI, hE, xu_52I, wu_52⟩ := hw
                  dsimp only at hI hE xu_52I wu_52
                  have hP : va_P G vwCl (WC cy L K R I52 J52 E52 B52) H := hP1
                  have hD : va_D A (WC cy L K R I52 J52 E52 B52) := hD1.weaken (fun _ _ _ h => hFc _ h)
                  clear hFc hk1 hz1 hP1 hD1
                  replace hC_0 := FI.tr hC_0 xu_52I (by decide)
                  replace hX_15 := FI.tr hX_15 xu_52I (by decide)
                  obtain ⟨v_53, ev_53⟩ : ∃ y : Int32, y = x4_15 + 1 := ⟨_, rfl⟩
                  refine lv_iinc (v := v_53) (lv' := [(4, .int v_53), (5, .int v_40), (0, .ref laying), (1, .int n), (2, .int n2), (3, .int n3)]) hx hb dX3_layNext_124 hl (k := 1) rfl (by rw [ev_53]; rfl) (by decide) rfl (fun ls hl => ?_)
                  have q_54 : v_53.toInt = x4_15.toInt + 1 := by have := ow_add ev_53 (by omega) (by omega); omega
                  refine lv_goto (tgt := 47) hx hb dX3_layNext_127 (by decide) ?_
                  refine W.widen (k := 0) (n := 0) (Nat.le_of_ble_eq_true rfl) (Nat.le_of_ble_eq_true rfl) ?_
                  exact ih_15 v_53 I52 J52 E52 B52 _ _ _ hI hE hX_15 (by omega) (by omega) hP hD hS (lv_sub hl [0, 2, 3, 4, 5] rfl)
                · have q_55 : n.toInt = (0 : Int32).toInt := (ow_eq _ _).mp c_28
                  exfalso
                  omega
        exact lp_15 _ (0) I J E B _ _ _ hI hE FI.rf (by omega) (Nat.lt_succ_self _) hP hD hS (lv_sub hl [0, 1, 2, 3, 4] rfl)
      · have q_56 : (6 : Int32).toInt ≤ n.toInt := by have := (not_congr (ow_lt _ _)).mp c_13; omega
        exfalso
        omega
  · have q_57 : (I laying 6).toInt ≤ n3.toInt := by have := (not_congr (ow_lt _ _)).mp c_1; omega
    refine W.widen (k := 0) (n := 0) (Nat.le_of_ble_eq_true rfl) (Nat.le_of_ble_eq_true rfl) ?_
    exact W.vret hx hb hr (fun t ht9 hW => ⟨⟨(I, J, E, B), rfl, ⟨hI, hE, hC_0, trivial⟩, ⟨by rw [ht9]; exact hP, hD⟩⟩, hS.F ht9⟩) hS.2.2 dX3_layNext_8
set_option maxHeartbeats 4000000 in
set_option maxRecDepth 100000 in
theorem l_next2 (l : Launch) (G : va_G) (cy : Nat → ClassId) (sz : Nat) (tq qq wq : Nat) (fo : Option Nat) (L : List Nat) (K : Nat → Nat) (R : Nat → Nat → Nat) (T : Int) (I E : Nat → Nat → Int32) (J B : Nat → Nat → Int64) (laying : Nat) (n : Int32) (n2 : Int32) (n3 : Int32) (hRT : RT L K R) (hI : IV T L K I) (hE : EV L K E) (h_laying1 : laying ∈ L) (h_laying2 : K laying = 10) (h_n : 2 ≤ n.toInt ∧ n.toInt ≤ 2) : Met l yX3_layNext (.code yX3_layNext cX3_layNext 6 none :: TBg) ({ frames := 6, cells := 0, slots := 0, locals := 384 }) (va_Pc [.ref laying, .int n, .int n2, .int n3] (EnX G cy (WC cy L K R I J E B) sz tq qq wq fo (va_A (WC cy L K R I J E B) sz))) (va_Qv (fun (u : (Nat → Nat → Int32) × (Nat → Nat → Int64) × (Nat → Nat → Int32) × (Nat → Nat → Int64)) => IV T L K u.1 ∧ EV L K u.2.2.1 ∧ FI [(10, 6)] K I u.1 ∧ (True)) (fun u t => Ex G (va_A (WC cy L K R I J E B) sz) (WC cy L K R u.1 u.2.1 u.2.2.1 u.2.2.2) t) (va_A (WC cy L K R I J E B) sz)) 0 0 (va_A (WC cy L K R I J E B) sz) := by
  have h_laying : laying ∈ L ∧ K laying = 10 := ⟨h_laying1, h_laying2⟩
  refine Met.ofW (cc := cX3_layNext) (maxL := 6) (ret := none) (by decide) rfl ?_
  intro p e s m args below meth c s₁ B9 hml hv9
  obtain ⟨rfl, ⟨hsz, hP, hK, hD0, hN⟩, hX⟩ := hv9
  have hx := B9.exec
  have hb := B9.bytes
  have hr := B9.returns
  have hts := atoms_spec (ws := .code yX3_layNext cX3_layNext 6 none :: TBg) B9.pre
  have ht : ∀ w ∈ TBg, w.before _ s = true := fun w h => hts w (List.mem_cons_of_mem _ h)
  have hown : s.vm.findClass RX3 = some m.cls := findClass_of_methodNamed B9.named
  have hlocks := B9.notSynchronized
  subst hsz
  have hD := hD0.self (sz := s.heap.size)
  generalize hAe : va_A (WC cy L K R I J E B) s.heap.size = A at hD hX ⊢
  have hA : ∀ q : Nat, s.heap.size ≤ q → A q := fun q h => by rw [← hAe]; exact Or.inr h
  have hS : va_S A s.heap s.heap [] := va_S.rf
  have hl := lv_entry ([.ref laying, .int n, .int n2, .int n3]) (n := 6) (Nat.le_of_ble_eq_true rfl)
  rw [lg_entry_eq]
  generalize (lg_sl ([.ref laying, .int n, .int n2, .int n3]) ++ List.replicate (6 - (lg_sl ([.ref laying, .int n, .int n2, .int n3])).length) Slot.unset).toArray = ls at hl ⊢
  have hl : lv_has ls 6 [(0, .ref laying), (1, .int n), (2, .int n2), (3, .int n3)] := hl
  have z0 : (0 : Int32).toInt = 0 := by decide
  have z1 : (1 : Int32).toInt = 1 := by decide
  have z2 : (6 : Int32).toInt = 6 := by decide
  have hC_0 : FI [(10, 6)] K I I := FI.rf
  refine lv_iload_n hx hb dX3_layNext_0 rfl (lv_at hl 3 rfl) ?_
  refine lv_aload_n hx hb dX3_layNext_1 rfl (lv_at hl 0 rfl) ?_
  refine cg_10_6_3 hx hb ht hown hK hN hP h_laying.1 h_laying.2 dX3_layNext_2 ?_
  refine lv_icmp_lt (tgt := 9) hx hb dX3_layNext_5 (by decide) (fun c_1 => ?_) (fun c_1 => ?_)
  · have q_2 : n3.toInt < (I laying 6).toInt := (ow_lt _ _).mp c_1
    refine lv_iload_n hx hb dX3_layNext_9 rfl (lv_at hl 1 rfl) ?_
    refine lv_aload_n hx hb dX3_layNext_10 rfl (lv_at hl 0 rfl) ?_
    refine cg_10_2_3 hx hb ht hown hK hN hP h_laying.1 h_laying.2 dX3_layNext_11 ?_
    have q_3 : 0 ≤ (I laying 2).toInt ∧ (I laying 2).toInt ≤ 6 := IV.rd hI h_laying.1 h_laying.2 2
    refine lv_icmp_ge (tgt := 23) hx hb dX3_layNext_14 (by decide) (fun c_4 => ?_) (fun c_4 => ?_)
    · have q_5 : (I laying 2).toInt ≤ n.toInt := (ow_le _ _).mp c_4
      refine lv_aload_n hx hb dX3_layNext_23 rfl (lv_at hl 0 rfl) ?_
      refine lv_iload_n hx hb dX3_layNext_24 rfl (lv_at hl 3 rfl) ?_
      refine cp_10_6_3 hx hb ht hown hK hN hP hD hS h_laying.1 h_laying.2 dX3_layNext_25 (fun H locs hP hD hS => ?_)
      replace hI := IV.up hI h_laying.2 6 (ow_any n3)
      have f_6 : FI [(10, 6)] K I (va_up I laying (va_up (I laying) 6 n3)) := FI.up h_laying.2 6 n3
      have e_7 : (va_up I laying (va_up (I laying) 6 n3)) laying 6 = n3 := FI.at I laying 6 n3
      replace hC_0 := FI.tr hC_0 f_6 (by decide)
      generalize (va_up I laying (va_up (I laying) 6 n3)) = I_8 at hP hD hI f_6 e_7 hC_0
      refine lv_aload_n hx hb dX3_layNext_28 rfl (lv_at hl 0 rfl) ?_
      refine cg_10_4_3 hx hb ht hown hK hN hP h_laying.1 h_laying.2 dX3_layNext_29 ?_
      have hm_9 : (R laying 4) ∈ L ∧ K (R laying 4) = 44 := RT.o hRT h_laying.1 h_laying.2 4 (by decide)
      refine lv_iconst (v := 0) hx hb dX3_layNext_32 (by decide) ?_
      refine lv_aload_n hx hb dX3_layNext_33 rfl (lv_at hl 0 rfl) ?_
      refine cg_10_5_3 hx hb ht hown hK hN hP h_laying.1 h_laying.2 dX3_layNext_34 ?_
      have hm_10 : (R laying 5) ∈ L ∧ K (R laying 5) = 45 := RT.o hRT h_laying.1 h_laying.2 5 (by decide)
      refine lv_iconst (v := 0) hx hb dX3_layNext_37 (by decide) ?_
      refine lv_bipush (v := 6) hx hb dX3_layNext_38 (by decide) ?_
      refine cc_44_45 hx hb (by rw [hml]; exact hl.1.symm) hown (ht _ k_743) (ht _ k_514) (ht _ k_515) (ht _ k_516) hK hP hD hS hm_9.1 hm_9.2 hm_10.1 hm_10.2 (Nat.le_of_ble_eq_true rfl) (Nat.le_of_ble_eq_true rfl) dX3_layNext_40 (fun g9 hg9 H locs hP hD hS => ?_)
      replace hE := EV.set hE hm_10.2 (g := g9) (fun j hj => hg9 j hj ▸ EV.at hE hm_9.1 hm_9.2 j hj)
      generalize (va_up E (R laying 5) g9) = E_11 at hP hD hE
      refine W.widen (k := 0) (n := 0) (Nat.le_of_ble_eq_true rfl) (Nat.le_of_ble_eq_true rfl) ?_
      exact W.vret hx hb hr (fun t ht9 hW => ⟨⟨(I_8, J, E_11, B), rfl, ⟨hI, hE, hC_0, trivial⟩, ⟨by rw [ht9]; exact hP, hD⟩⟩, hS.F ht9⟩) hS.2.2 dX3_layNext_43
    · have q_12 : n.toInt < (I laying 2).toInt := by have := (not_congr (ow_le _ _)).mp c_4; omega
      refine lv_iload_n hx hb dX3_layNext_17 rfl (lv_at hl 1 rfl) ?_
      refine lv_bipush (v := 6) hx hb dX3_layNext_18 (by decide) ?_
      refine lv_icmp_lt (tgt := 44) hx hb dX3_layNext_20 (by decide) (fun c_13 => ?_) (fun c_13 => ?_)
      · have q_14 : n.toInt < (6 : Int32).toInt := (ow_lt _ _).mp c_13
        refine lv_iconst (v := 0) hx hb dX3_layNext_44 (by decide) ?_
        refine lv_istore (lv' := [(4, .int 0), (0, .ref laying), (1, .int n), (2, .int n2), (3, .int n3)]) hx hb dX3_layNext_45 hl (by decide) rfl (fun ls hl => ?_)
        refine W.widen (k := 0) (n := 0) (Nat.le_of_ble_eq_true rfl) (Nat.le_of_ble_eq_true rfl) ?_
        have lp_15 : ∀ (N_15 : Nat) (x4_15 : Int32) (I15 : Nat → Nat → Int32) (J15 : Nat → Nat → Int64) (E15 : Nat → Nat → Int32) (B15 : Nat → Nat → Int64) (H : Heap) (locs : List Loc) (ls : Array Slot), IV T L K I15 → EV L K E15 → FI [(10, 6)] K I I15 → (0 ≤ x4_15.toInt ∧ x4_15.toInt ≤ 6) → (6 - x4_15.toInt).toNat < N_15 → va_P G vwCl (WC cy L K R I15 J15 E15 B15) H → va_D A (WC cy L K R I15 J15 E15 B15) → va_S A s.heap H locs → lv_has ls 6 [(4, .int x4_15), (0, .ref laying), (1, .int n), (2, .int n2), (3, .int n3)] → W p l e (headSpec (.code yX3_layNext cX3_layNext 6 none :: TBg) ({ frames := 6, cells := 0, slots := 0, locals := 384 })).room s m ([.ref laying, .int n, .int n2, .int n3] : List Value).toArray below meth c H locs 0 0 (MQ below (va_Qv (fun (u : (Nat → Nat → Int32) × (Nat → Nat → Int64) × (Nat → Nat → Int32) × (Nat → Nat → Int64)) => IV T L K u.1 ∧ EV L K u.2.2.1 ∧ FI [(10, 6)] K I u.1 ∧ (True)) (fun u t => Ex G A (WC cy L K R u.1 u.2.1 u.2.2.1 u.2.2.2) t) A) ([.ref laying, .int n, .int n2, .int n3] : List Value).toArray s 0 0 A) (F0 m 47 ls []) := by
          intro N_15
          induction N_15 with
          | zero => intro x4_15 I15 J15 E15 B15 H locs ls hI hE hC_15 qf15_0 hm9 hP hD hS hl; exact absurd hm9 (Nat.not_lt_zero _)
          | succ N_15 ih_15 =>
            intro x4_15 I15 J15 E15 B15 H locs ls hI hE hC_15 qf15_0 hm9 hP hD hS hl
            replace hC_0 := FI.tr hC_0 hC_15 (by decide)
            have hX_15 := hC_15
            refine lv_iload hx hb dX3_layNext_47 (lv_at hl 0 rfl) ?_
            refine lv_aload_n hx hb dX3_layNext_49 rfl (lv_at hl 1 rfl) ?_
            refine cg_10_2_3 hx hb ht hown hK hN hP h_laying.1 h_laying.2 dX3_layNext_50 ?_
            refine ow_top (I laying 2) (hC_15 laying 2 (by rw [h_laying.2]; decide)) ?_
            have q_16 : 0 ≤ (I laying 2).toInt ∧ (I laying 2).toInt ≤ 6 := by have h9 : I15 laying 2 = (I laying 2) := (hC_15 laying 2 (by rw [h_laying.2]; decide)); rw [← h9]; exact IV.rd hI h_laying.1 h_laying.2 2
            refine lv_icmp_ge (tgt := 130) hx hb dX3_layNext_53 (by decide) (fun c_17 => ?_) (fun c_17 => ?_)
            · have q_18 : (I laying 2).toInt ≤ x4_15.toInt := (ow_le _ _).mp c_17
              refine W.widen (k := 0) (n := 0) (Nat.le_of_ble_eq_true rfl) (Nat.le_of_ble_eq_true rfl) ?_
              exact W.vret hx hb hr (fun t ht9 hW => ⟨⟨(I15, J15, E15, B15), rfl, ⟨hI, hE, hC_0, trivial⟩, ⟨by rw [ht9]; exact hP, hD⟩⟩, hS.F ht9⟩) hS.2.2 dX3_layNext_130
            · have q_19 : x4_15.toInt < (I laying 2).toInt := by have := (not_congr (ow_le _ _)).mp c_17; omega
              refine lv_iload_n hx hb dX3_layNext_56 rfl (lv_at hl 3 rfl) ?_
              refine lv_iload hx hb dX3_layNext_57 (lv_at hl 0 rfl) ?_
              refine lv_ishr hx hb dX3_layNext_59 ?_
              refine lv_topi (fun v_20 ev_20 => ?_)
              refine lv_iconst (v := 1) hx hb dX3_layNext_60 (by decide) ?_
              refine lv_iand hx hb dX3_layNext_61 ?_
              refine lv_topi (fun v_21 ev_21 => ?_)
              have q_22 : 0 ≤ v_21.toInt ∧ v_21.toInt ≤ 1 := by rw [ev_21]; exact ow_and1 _
              refine lv_if_ne (tgt := 124) hx hb dX3_layNext_62 (by decide) (fun c_23 => ?_) (fun c_23 => ?_)
              · have q_24 : ¬ v_21.toInt = (0 : Int32).toInt := by have := (not_congr (ow_eq _ _)).mp c_23; omega
                obtain ⟨v_25, ev_25⟩ : ∃ y : Int32, y = x4_15 + 1 := ⟨_, rfl⟩
                refine lv_iinc (v := v_25) (lv' := [(4, .int v_25), (0, .ref laying), (1, .int n), (2, .int n2), (3, .int n3)]) hx hb dX3_layNext_124 hl (k := 0) rfl (by rw [ev_25]; rfl) (by decide) rfl (fun ls hl => ?_)
                have q_26 : v_25.toInt = x4_15.toInt + 1 := by have := ow_add ev_25 (by omega) (by omega); omega
                refine lv_goto (tgt := 47) hx hb dX3_layNext_127 (by decide) ?_
                refine W.widen (k := 0) (n := 0) (Nat.le_of_ble_eq_true rfl) (Nat.le_of_ble_eq_true rfl) ?_
                exact ih_15 v_25 I15 J15 E15 B15 _ _ _ hI hE hX_15 (by omega) (by omega) hP hD hS (lv_sub hl [0, 1, 2, 3, 4] rfl)
              · have q_27 : v_21.toInt = (0 : Int32).toInt := (ow_eq _ _).mp c_23
                refine lv_iload_n hx hb dX3_layNext_65 rfl (lv_at hl 2 rfl) ?_
                refine lv_if_ne (tgt := 73) hx hb dX3_layNext_66 (by decide) (fun c_28 => ?_) (fun c_28 => ?_)
                · have q_29 : ¬ n.toInt = (0 : Int32).toInt := by have := (not_congr (ow_eq _ _)).mp c_28; omega
                  refine lv_aload_n hx hb dX3_layNext_73 rfl (lv_at hl 1 rfl) ?_
                  refine cg_10_3_3 hx hb ht hown hK hN hP h_laying.1 h_laying.2 dX3_layNext_74 ?_
                  have hm_30 : (R laying 3) ∈ L ∧ K (R laying 3) = 42 := RT.o hRT h_laying.1 h_laying.2 3 (by decide)
                  refine lv_aload_n hx hb dX3_layNext_77 rfl (lv_at hl 1 rfl) ?_
                  refine cg_10_4_3 hx hb ht hown hK hN hP h_laying.1 h_laying.2 dX3_layNext_78 ?_
                  have hm_31 : (R laying 4) ∈ L ∧ K (R laying 4) = 44 := RT.o hRT h_laying.1 h_laying.2 4 (by decide)
                  refine lv_iload_n hx hb dX3_layNext_81 rfl (lv_at hl 2 rfl) ?_
                  refine lv_iconst (v := 1) hx hb dX3_layNext_82 (by decide) ?_
                  refine lv_isub hx hb dX3_layNext_83 ?_
                  refine lv_topi (fun v_32 ev_32 => ?_)
                  have q_33 : v_32.toInt = n.toInt - (1 : Int32).toInt := ow_sub ev_32 (by omega) (by omega)
                  have q_34 : vp_in v_32 6 := vp_in_iff.mpr ⟨by omega, by omega⟩
                  refine cl_44 hx hb hK hP hm_31.1 hm_31.2 q_34 dX3_layNext_84 ?_
                  refine lv_topi (fun v_35 ev_35 => ?_)
                  have q_36 : 0 ≤ v_35.toInt ∧ v_35.toInt ≤ 5 := by rw [ev_35]; exact EV.rd hE hm_31.1 hm_31.2 q_34
                  have q_37 : vp_in v_35 6 := vp_in_iff.mpr ⟨by omega, by omega⟩
                  refine cl_42 hx hb hX.2.2 hP hm_30.1 hm_30.2 q_37 dX3_layNext_85 ?_
                  have hm_38 : (R (R laying 3) (Int32.toNatClampNeg v_35)) ∈ L ∧ K (R (R laying 3) (Int32.toNatClampNeg v_35)) = 43 := RT.a hRT hm_30.1 hm_30.2 (by decide) q_37
                  refine lv_iload hx hb dX3_layNext_86 (lv_at hl 0 rfl) ?_
                  have q_39 : vp_in x4_15 6 := vp_in_iff.mpr ⟨by omega, by omega⟩
                  refine cl_43 hx hb hK hP hm_38.1 hm_38.2 q_39 dX3_layNext_88 ?_
                  refine lv_topi (fun v_40 ev_40 => ?_)
                  refine lv_istore (lv' := [(5, .int v_40), (4, .int x4_15), (0, .ref laying), (1, .int n), (2, .int n2), (3, .int n3)]) hx hb dX3_layNext_89 hl (by decide) rfl (fun ls hl => ?_)
                  refine lv_aload_n hx hb dX3_layNext_91 rfl (lv_at hl 2 rfl) ?_
                  refine cg_10_4_3 hx hb ht hown hK hN hP h_laying.1 h_laying.2 dX3_layNext_92 ?_
                  refine lv_iload_n hx hb dX3_layNext_95 rfl (lv_at hl 3 rfl) ?_
                  refine lv_iload hx hb dX3_layNext_96 (lv_at hl 1 rfl) ?_
                  have q_41 : vp_in n 6 := vp_in_iff.mpr ⟨by omega, by omega⟩
                  refine cs_44 hx hb hK hP hD hS hm_31.1 hm_31.2 q_41 dX3_layNext_98 (fun H locs hP hD hS => ?_)
                  replace hE := EV.up hE hm_31.2 (i := (Int32.toNatClampNeg n)) (show 0 ≤ x4_15.toInt ∧ x4_15.toInt ≤ 5 from by omega)
                  generalize (va_up E15 (R laying 4) (upd (E15 (R laying 4)) (Int32.toNatClampNeg n) x4_15)) = E_42 at hP hD hE
                  refine lv_aload_n hx hb dX3_layNext_99 rfl (lv_at hl 2 rfl) ?_
                  refine lv_iload_n hx hb dX3_layNext_100 rfl (lv_at hl 3 rfl) ?_
                  refine lv_iconst (v := 1) hx hb dX3_layNext_101 (by decide) ?_
                  refine lv_iadd hx hb dX3_layNext_102 ?_
                  refine lv_topi (fun v_43 ev_43 => ?_)
                  have q_44 : v_43.toInt = n.toInt + (1 : Int32).toInt := ow_add ev_43 (by omega) (by omega)
                  refine lv_iload_n hx hb dX3_layNext_103 rfl (lv_at hl 4 rfl) ?_
                  refine lv_iconst (v := 1) hx hb dX3_layNext_104 (by decide) ?_
                  refine lv_iload hx hb dX3_layNext_105 (lv_at hl 1 rfl) ?_
                  refine lv_ishl hx hb dX3_layNext_107 ?_
                  refine lv_topi (fun v_45 ev_45 => ?_)
                  refine lv_ior hx hb dX3_layNext_108 ?_
                  refine lv_topi (fun v_46 ev_46 => ?_)
                  refine lv_iload_n hx hb dX3_layNext_109 rfl (lv_at hl 5 rfl) ?_
                  refine lv_aload_n hx hb dX3_layNext_110 rfl (lv_at hl 2 rfl) ?_
                  refine cg_10_1_3 hx hb ht hown hK hN hP h_laying.1 h_laying.2 dX3_layNext_111 ?_
                  have hm_47 : (R laying 1) ∈ L ∧ K (R laying 1) = 41 := RT.o hRT h_laying.1 h_laying.2 1 (by decide)
                  refine lv_iload hx hb dX3_layNext_114 (lv_at hl 1 rfl) ?_
                  have q_48 : vp_in x4_15 6 := vp_in_iff.mpr ⟨by omega, by omega⟩
                  refine cl_41 hx hb hK hP hm_47.1 hm_47.2 q_48 dX3_layNext_116 ?_
                  refine lv_topi (fun v_49 ev_49 => ?_)
                  refine lv_iadd hx hb dX3_layNext_117 ?_
                  refine lv_topi (fun v_50 ev_50 => ?_)
                  refine lv_iload hx hb dX3_layNext_118 (lv_at hl 0 rfl) ?_
                  refine lv_isub hx hb dX3_layNext_120 ?_
                  refine lv_topi (fun v_51 ev_51 => ?_)
                  have hFc := fr_free hD hS hA
                  refine va_callv (va_runS (As := [.ref laying, .int v_43, .int v_46, .int v_51]) (rest := []) ⟨hx, hb, hml, hown, ht⟩ (l_next3 l G cy _ tq qq wq fo L K R T I15 E_42 J15 B15 laying v_43 v_46 v_51 hRT hI hE h_laying.1 h_laying.2 (by omega)) (va_cwS 4 ht (gs k_745 k_746 k_747 k_744) rfl rfl rfl (by decide +kernel) ⟨Nat.le_of_ble_eq_true rfl, Nat.le_of_ble_eq_true rfl⟩) ⟨EnX.blind, fun U hU hW => ⟨rfl, En.of hU hW hP hK hD hN, XK.of hX hS hFc hU hW⟩⟩ rfl rfl hl.1 rfl (lv_room (Nat.le_of_ble_eq_true rfl)) dX3_layNext_121 ⟨Nat.le_of_ble_eq_true rfl, Nat.le_of_ble_eq_true rfl⟩) hS (fun q _ h => hFc q h) hFc (fun u_52 t9 H locs ht9 hvm hw hB hz1 hk1 hS => ?_)
                  obtain ⟨I52, J52, E52, B52⟩ := u_52
                  obtain ⟨hP1, hD1⟩ := hB
                  rw [ht9] at hP1
                  clear hI hE
                  obtain ⟨hI, hE, xu_52I, wu_52⟩ := hw
                  dsimp only at hI hE xu_52I wu_52
                  have hP : va_P G vwCl (WC cy L K R I52 J52 E52 B52) H := hP1
                  have hD : va_D A (WC cy L K R I52 J52 E52 B52) := hD1.weaken (fun _ _ _ h => hFc _ h)
                  clear hFc hk1 hz1 hP1 hD1
                  replace hC_0 := FI.tr hC_0 xu_52I (by decide)
                  replace hX_15 := FI.tr hX_15 xu_52I (by decide)
                  obtain ⟨v_53, ev_53⟩ : ∃ y : Int32, y = x4_15 + 1 := ⟨_, rfl⟩
                  refine lv_iinc (v := v_53) (lv' := [(4, .int v_53), (5, .int v_40), (0, .ref laying), (1, .int n), (2, .int n2), (3, .int n3)]) hx hb dX3_layNext_124 hl (k := 1) rfl (by rw [ev_53]; rfl) (by decide) rfl (fun ls hl => ?_)
                  have q_54 : v_53.toInt = x4_15.toInt + 1 := by have := ow_add ev_53 (by omega) (by omega); omega
                  refine lv_goto (tgt := 47) hx hb dX3_layNext_127 (by decide) ?_
                  refine W.widen (k := 0) (n := 0) (Nat.le_of_ble_eq_true rfl) (Nat.le_of_ble_eq_true rfl) ?_
                  exact ih_15 v_53 I52 J52 E52 B52 _ _ _ hI hE hX_15 (by omega) (by omega) hP hD hS (lv_sub hl [0, 2, 3, 4, 5] rfl)
                · have q_55 : n.toInt = (0 : Int32).toInt := (ow_eq _ _).mp c_28
                  exfalso
                  omega
        exact lp_15 _ (0) I J E B _ _ _ hI hE FI.rf (by omega) (Nat.lt_succ_self _) hP hD hS (lv_sub hl [0, 1, 2, 3, 4] rfl)
      · have q_56 : (6 : Int32).toInt ≤ n.toInt := by have := (not_congr (ow_lt _ _)).mp c_13; omega
        exfalso
        omega
  · have q_57 : (I laying 6).toInt ≤ n3.toInt := by have := (not_congr (ow_lt _ _)).mp c_1; omega
    refine W.widen (k := 0) (n := 0) (Nat.le_of_ble_eq_true rfl) (Nat.le_of_ble_eq_true rfl) ?_
    exact W.vret hx hb hr (fun t ht9 hW => ⟨⟨(I, J, E, B), rfl, ⟨hI, hE, hC_0, trivial⟩, ⟨by rw [ht9]; exact hP, hD⟩⟩, hS.F ht9⟩) hS.2.2 dX3_layNext_8
set_option maxHeartbeats 4000000 in
set_option maxRecDepth 100000 in
theorem l_next1 (l : Launch) (G : va_G) (cy : Nat → ClassId) (sz : Nat) (tq qq wq : Nat) (fo : Option Nat) (L : List Nat) (K : Nat → Nat) (R : Nat → Nat → Nat) (T : Int) (I E : Nat → Nat → Int32) (J B : Nat → Nat → Int64) (laying : Nat) (n : Int32) (n2 : Int32) (n3 : Int32) (hRT : RT L K R) (hI : IV T L K I) (hE : EV L K E) (h_laying1 : laying ∈ L) (h_laying2 : K laying = 10) (h_n : 1 ≤ n.toInt ∧ n.toInt ≤ 1) : Met l yX3_layNext (.code yX3_layNext cX3_layNext 6 none :: TBg) ({ frames := 7, cells := 0, slots := 0, locals := 448 }) (va_Pc [.ref laying, .int n, .int n2, .int n3] (EnX G cy (WC cy L K R I J E B) sz tq qq wq fo (va_A (WC cy L K R I J E B) sz))) (va_Qv (fun (u : (Nat → Nat → Int32) × (Nat → Nat → Int64) × (Nat → Nat → Int32) × (Nat → Nat → Int64)) => IV T L K u.1 ∧ EV L K u.2.2.1 ∧ FI [(10, 6)] K I u.1 ∧ (True)) (fun u t => Ex G (va_A (WC cy L K R I J E B) sz) (WC cy L K R u.1 u.2.1 u.2.2.1 u.2.2.2) t) (va_A (WC cy L K R I J E B) sz)) 0 0 (va_A (WC cy L K R I J E B) sz) := by
  have h_laying : laying ∈ L ∧ K laying = 10 := ⟨h_laying1, h_laying2⟩
  refine Met.ofW (cc := cX3_layNext) (maxL := 6) (ret := none) (by decide) rfl ?_
  intro p e s m args below meth c s₁ B9 hml hv9
  obtain ⟨rfl, ⟨hsz, hP, hK, hD0, hN⟩, hX⟩ := hv9
  have hx := B9.exec
  have hb := B9.bytes
  have hr := B9.returns
  have hts := atoms_spec (ws := .code yX3_layNext cX3_layNext 6 none :: TBg) B9.pre
  have ht : ∀ w ∈ TBg, w.before _ s = true := fun w h => hts w (List.mem_cons_of_mem _ h)
  have hown : s.vm.findClass RX3 = some m.cls := findClass_of_methodNamed B9.named
  have hlocks := B9.notSynchronized
  subst hsz
  have hD := hD0.self (sz := s.heap.size)
  generalize hAe : va_A (WC cy L K R I J E B) s.heap.size = A at hD hX ⊢
  have hA : ∀ q : Nat, s.heap.size ≤ q → A q := fun q h => by rw [← hAe]; exact Or.inr h
  have hS : va_S A s.heap s.heap [] := va_S.rf
  have hl := lv_entry ([.ref laying, .int n, .int n2, .int n3]) (n := 6) (Nat.le_of_ble_eq_true rfl)
  rw [lg_entry_eq]
  generalize (lg_sl ([.ref laying, .int n, .int n2, .int n3]) ++ List.replicate (6 - (lg_sl ([.ref laying, .int n, .int n2, .int n3])).length) Slot.unset).toArray = ls at hl ⊢
  have hl : lv_has ls 6 [(0, .ref laying), (1, .int n), (2, .int n2), (3, .int n3)] := hl
  have z0 : (0 : Int32).toInt = 0 := by decide
  have z1 : (1 : Int32).toInt = 1 := by decide
  have z2 : (6 : Int32).toInt = 6 := by decide
  have hC_0 : FI [(10, 6)] K I I := FI.rf
  refine lv_iload_n hx hb dX3_layNext_0 rfl (lv_at hl 3 rfl) ?_
  refine lv_aload_n hx hb dX3_layNext_1 rfl (lv_at hl 0 rfl) ?_
  refine cg_10_6_3 hx hb ht hown hK hN hP h_laying.1 h_laying.2 dX3_layNext_2 ?_
  refine lv_icmp_lt (tgt := 9) hx hb dX3_layNext_5 (by decide) (fun c_1 => ?_) (fun c_1 => ?_)
  · have q_2 : n3.toInt < (I laying 6).toInt := (ow_lt _ _).mp c_1
    refine lv_iload_n hx hb dX3_layNext_9 rfl (lv_at hl 1 rfl) ?_
    refine lv_aload_n hx hb dX3_layNext_10 rfl (lv_at hl 0 rfl) ?_
    refine cg_10_2_3 hx hb ht hown hK hN hP h_laying.1 h_laying.2 dX3_layNext_11 ?_
    have q_3 : 0 ≤ (I laying 2).toInt ∧ (I laying 2).toInt ≤ 6 := IV.rd hI h_laying.1 h_laying.2 2
    refine lv_icmp_ge (tgt := 23) hx hb dX3_layNext_14 (by decide) (fun c_4 => ?_) (fun c_4 => ?_)
    · have q_5 : (I laying 2).toInt ≤ n.toInt := (ow_le _ _).mp c_4
      refine lv_aload_n hx hb dX3_layNext_23 rfl (lv_at hl 0 rfl) ?_
      refine lv_iload_n hx hb dX3_layNext_24 rfl (lv_at hl 3 rfl) ?_
      refine cp_10_6_3 hx hb ht hown hK hN hP hD hS h_laying.1 h_laying.2 dX3_layNext_25 (fun H locs hP hD hS => ?_)
      replace hI := IV.up hI h_laying.2 6 (ow_any n3)
      have f_6 : FI [(10, 6)] K I (va_up I laying (va_up (I laying) 6 n3)) := FI.up h_laying.2 6 n3
      have e_7 : (va_up I laying (va_up (I laying) 6 n3)) laying 6 = n3 := FI.at I laying 6 n3
      replace hC_0 := FI.tr hC_0 f_6 (by decide)
      generalize (va_up I laying (va_up (I laying) 6 n3)) = I_8 at hP hD hI f_6 e_7 hC_0
      refine lv_aload_n hx hb dX3_layNext_28 rfl (lv_at hl 0 rfl) ?_
      refine cg_10_4_3 hx hb ht hown hK hN hP h_laying.1 h_laying.2 dX3_layNext_29 ?_
      have hm_9 : (R laying 4) ∈ L ∧ K (R laying 4) = 44 := RT.o hRT h_laying.1 h_laying.2 4 (by decide)
      refine lv_iconst (v := 0) hx hb dX3_layNext_32 (by decide) ?_
      refine lv_aload_n hx hb dX3_layNext_33 rfl (lv_at hl 0 rfl) ?_
      refine cg_10_5_3 hx hb ht hown hK hN hP h_laying.1 h_laying.2 dX3_layNext_34 ?_
      have hm_10 : (R laying 5) ∈ L ∧ K (R laying 5) = 45 := RT.o hRT h_laying.1 h_laying.2 5 (by decide)
      refine lv_iconst (v := 0) hx hb dX3_layNext_37 (by decide) ?_
      refine lv_bipush (v := 6) hx hb dX3_layNext_38 (by decide) ?_
      refine cc_44_45 hx hb (by rw [hml]; exact hl.1.symm) hown (ht _ k_743) (ht _ k_514) (ht _ k_515) (ht _ k_516) hK hP hD hS hm_9.1 hm_9.2 hm_10.1 hm_10.2 (Nat.le_of_ble_eq_true rfl) (Nat.le_of_ble_eq_true rfl) dX3_layNext_40 (fun g9 hg9 H locs hP hD hS => ?_)
      replace hE := EV.set hE hm_10.2 (g := g9) (fun j hj => hg9 j hj ▸ EV.at hE hm_9.1 hm_9.2 j hj)
      generalize (va_up E (R laying 5) g9) = E_11 at hP hD hE
      refine W.widen (k := 0) (n := 0) (Nat.le_of_ble_eq_true rfl) (Nat.le_of_ble_eq_true rfl) ?_
      exact W.vret hx hb hr (fun t ht9 hW => ⟨⟨(I_8, J, E_11, B), rfl, ⟨hI, hE, hC_0, trivial⟩, ⟨by rw [ht9]; exact hP, hD⟩⟩, hS.F ht9⟩) hS.2.2 dX3_layNext_43
    · have q_12 : n.toInt < (I laying 2).toInt := by have := (not_congr (ow_le _ _)).mp c_4; omega
      refine lv_iload_n hx hb dX3_layNext_17 rfl (lv_at hl 1 rfl) ?_
      refine lv_bipush (v := 6) hx hb dX3_layNext_18 (by decide) ?_
      refine lv_icmp_lt (tgt := 44) hx hb dX3_layNext_20 (by decide) (fun c_13 => ?_) (fun c_13 => ?_)
      · have q_14 : n.toInt < (6 : Int32).toInt := (ow_lt _ _).mp c_13
        refine lv_iconst (v := 0) hx hb dX3_layNext_44 (by decide) ?_
        refine lv_istore (lv' := [(4, .int 0), (0, .ref laying), (1, .int n), (2, .int n2), (3, .int n3)]) hx hb dX3_layNext_45 hl (by decide) rfl (fun ls hl => ?_)
        refine W.widen (k := 0) (n := 0) (Nat.le_of_ble_eq_true rfl) (Nat.le_of_ble_eq_true rfl) ?_
        have lp_15 : ∀ (N_15 : Nat) (x4_15 : Int32) (I15 : Nat → Nat → Int32) (J15 : Nat → Nat → Int64) (E15 : Nat → Nat → Int32) (B15 : Nat → Nat → Int64) (H : Heap) (locs : List Loc) (ls : Array Slot), IV T L K I15 → EV L K E15 → FI [(10, 6)] K I I15 → (0 ≤ x4_15.toInt ∧ x4_15.toInt ≤ 6) → (6 - x4_15.toInt).toNat < N_15 → va_P G vwCl (WC cy L K R I15 J15 E15 B15) H → va_D A (WC cy L K R I15 J15 E15 B15) → va_S A s.heap H locs → lv_has ls 6 [(4, .int x4_15), (0, .ref laying), (1, .int n), (2, .int n2), (3, .int n3)] → W p l e (headSpec (.code yX3_layNext cX3_layNext 6 none :: TBg) ({ frames := 7, cells := 0, slots := 0, locals := 448 })).room s m ([.ref laying, .int n, .int n2, .int n3] : List Value).toArray below meth c H locs 0 0 (MQ below (va_Qv (fun (u : (Nat → Nat → Int32) × (Nat → Nat → Int64) × (Nat → Nat → Int32) × (Nat → Nat → Int64)) => IV T L K u.1 ∧ EV L K u.2.2.1 ∧ FI [(10, 6)] K I u.1 ∧ (True)) (fun u t => Ex G A (WC cy L K R u.1 u.2.1 u.2.2.1 u.2.2.2) t) A) ([.ref laying, .int n, .int n2, .int n3] : List Value).toArray s 0 0 A) (F0 m 47 ls []) := by
          intro N_15
          induction N_15 with
          | zero => intro x4_15 I15 J15 E15 B15 H locs ls hI hE hC_15 qf15_0 hm9 hP hD hS hl; exact absurd hm9 (Nat.not_lt_zero _)
          | succ N_15 ih_15 =>
            intro x4_15 I15 J15 E15 B15 H locs ls hI hE hC_15 qf15_0 hm9 hP hD hS hl
            replace hC_0 := FI.tr hC_0 hC_15 (by decide)
            have hX_15 := hC_15
            refine lv_iload hx hb dX3_layNext_47 (lv_at hl 0 rfl) ?_
            refine lv_aload_n hx hb dX3_layNext_49 rfl (lv_at hl 1 rfl) ?_
            refine cg_10_2_3 hx hb ht hown hK hN hP h_laying.1 h_laying.2 dX3_layNext_50 ?_
            refine ow_top (I laying 2) (hC_15 laying 2 (by rw [h_laying.2]; decide)) ?_
            have q_16 : 0 ≤ (I laying 2).toInt ∧ (I laying 2).toInt ≤ 6 := by have h9 : I15 laying 2 = (I laying 2) := (hC_15 laying 2 (by rw [h_laying.2]; decide)); rw [← h9]; exact IV.rd hI h_laying.1 h_laying.2 2
            refine lv_icmp_ge (tgt := 130) hx hb dX3_layNext_53 (by decide) (fun c_17 => ?_) (fun c_17 => ?_)
            · have q_18 : (I laying 2).toInt ≤ x4_15.toInt := (ow_le _ _).mp c_17
              refine W.widen (k := 0) (n := 0) (Nat.le_of_ble_eq_true rfl) (Nat.le_of_ble_eq_true rfl) ?_
              exact W.vret hx hb hr (fun t ht9 hW => ⟨⟨(I15, J15, E15, B15), rfl, ⟨hI, hE, hC_0, trivial⟩, ⟨by rw [ht9]; exact hP, hD⟩⟩, hS.F ht9⟩) hS.2.2 dX3_layNext_130
            · have q_19 : x4_15.toInt < (I laying 2).toInt := by have := (not_congr (ow_le _ _)).mp c_17; omega
              refine lv_iload_n hx hb dX3_layNext_56 rfl (lv_at hl 3 rfl) ?_
              refine lv_iload hx hb dX3_layNext_57 (lv_at hl 0 rfl) ?_
              refine lv_ishr hx hb dX3_layNext_59 ?_
              refine lv_topi (fun v_20 ev_20 => ?_)
              refine lv_iconst (v := 1) hx hb dX3_layNext_60 (by decide) ?_
              refine lv_iand hx hb dX3_layNext_61 ?_
              refine lv_topi (fun v_21 ev_21 => ?_)
              have q_22 : 0 ≤ v_21.toInt ∧ v_21.toInt ≤ 1 := by rw [ev_21]; exact ow_and1 _
              refine lv_if_ne (tgt := 124) hx hb dX3_layNext_62 (by decide) (fun c_23 => ?_) (fun c_23 => ?_)
              · have q_24 : ¬ v_21.toInt = (0 : Int32).toInt := by have := (not_congr (ow_eq _ _)).mp c_23; omega
                obtain ⟨v_25, ev_25⟩ : ∃ y : Int32, y = x4_15 + 1 := ⟨_, rfl⟩
                refine lv_iinc (v := v_25) (lv' := [(4, .int v_25), (0, .ref laying), (1, .int n), (2, .int n2), (3, .int n3)]) hx hb dX3_layNext_124 hl (k := 0) rfl (by rw [ev_25]; rfl) (by decide) rfl (fun ls hl => ?_)
                have q_26 : v_25.toInt = x4_15.toInt + 1 := by have := ow_add ev_25 (by omega) (by omega); omega
                refine lv_goto (tgt := 47) hx hb dX3_layNext_127 (by decide) ?_
                refine W.widen (k := 0) (n := 0) (Nat.le_of_ble_eq_true rfl) (Nat.le_of_ble_eq_true rfl) ?_
                exact ih_15 v_25 I15 J15 E15 B15 _ _ _ hI hE hX_15 (by omega) (by omega) hP hD hS (lv_sub hl [0, 1, 2, 3, 4] rfl)
              · have q_27 : v_21.toInt = (0 : Int32).toInt := (ow_eq _ _).mp c_23
                refine lv_iload_n hx hb dX3_layNext_65 rfl (lv_at hl 2 rfl) ?_
                refine lv_if_ne (tgt := 73) hx hb dX3_layNext_66 (by decide) (fun c_28 => ?_) (fun c_28 => ?_)
                · have q_29 : ¬ n.toInt = (0 : Int32).toInt := by have := (not_congr (ow_eq _ _)).mp c_28; omega
                  refine lv_aload_n hx hb dX3_layNext_73 rfl (lv_at hl 1 rfl) ?_
                  refine cg_10_3_3 hx hb ht hown hK hN hP h_laying.1 h_laying.2 dX3_layNext_74 ?_
                  have hm_30 : (R laying 3) ∈ L ∧ K (R laying 3) = 42 := RT.o hRT h_laying.1 h_laying.2 3 (by decide)
                  refine lv_aload_n hx hb dX3_layNext_77 rfl (lv_at hl 1 rfl) ?_
                  refine cg_10_4_3 hx hb ht hown hK hN hP h_laying.1 h_laying.2 dX3_layNext_78 ?_
                  have hm_31 : (R laying 4) ∈ L ∧ K (R laying 4) = 44 := RT.o hRT h_laying.1 h_laying.2 4 (by decide)
                  refine lv_iload_n hx hb dX3_layNext_81 rfl (lv_at hl 2 rfl) ?_
                  refine lv_iconst (v := 1) hx hb dX3_layNext_82 (by decide) ?_
                  refine lv_isub hx hb dX3_layNext_83 ?_
                  refine lv_topi (fun v_32 ev_32 => ?_)
                  have q_33 : v_32.toInt = n.toInt - (1 : Int32).toInt := ow_sub ev_32 (by omega) (by omega)
                  have q_34 : vp_in v_32 6 := vp_in_iff.mpr ⟨by omega, by omega⟩
                  refine cl_44 hx hb hK hP hm_31.1 hm_31.2 q_34 dX3_layNext_84 ?_
                  refine lv_topi (fun v_35 ev_35 => ?_)
                  have q_36 : 0 ≤ v_35.toInt ∧ v_35.toInt ≤ 5 := by rw [ev_35]; exact EV.rd hE hm_31.1 hm_31.2 q_34
                  have q_37 : vp_in v_35 6 := vp_in_iff.mpr ⟨by omega, by omega⟩
                  refine cl_42 hx hb hX.2.2 hP hm_30.1 hm_30.2 q_37 dX3_layNext_85 ?_
                  have hm_38 : (R (R laying 3) (Int32.toNatClampNeg v_35)) ∈ L ∧ K (R (R laying 3) (Int32.toNatClampNeg v_35)) = 43 := RT.a hRT hm_30.1 hm_30.2 (by decide) q_37
                  refine lv_iload hx hb dX3_layNext_86 (lv_at hl 0 rfl) ?_
                  have q_39 : vp_in x4_15 6 := vp_in_iff.mpr ⟨by omega, by omega⟩
                  refine cl_43 hx hb hK hP hm_38.1 hm_38.2 q_39 dX3_layNext_88 ?_
                  refine lv_topi (fun v_40 ev_40 => ?_)
                  refine lv_istore (lv' := [(5, .int v_40), (4, .int x4_15), (0, .ref laying), (1, .int n), (2, .int n2), (3, .int n3)]) hx hb dX3_layNext_89 hl (by decide) rfl (fun ls hl => ?_)
                  refine lv_aload_n hx hb dX3_layNext_91 rfl (lv_at hl 2 rfl) ?_
                  refine cg_10_4_3 hx hb ht hown hK hN hP h_laying.1 h_laying.2 dX3_layNext_92 ?_
                  refine lv_iload_n hx hb dX3_layNext_95 rfl (lv_at hl 3 rfl) ?_
                  refine lv_iload hx hb dX3_layNext_96 (lv_at hl 1 rfl) ?_
                  have q_41 : vp_in n 6 := vp_in_iff.mpr ⟨by omega, by omega⟩
                  refine cs_44 hx hb hK hP hD hS hm_31.1 hm_31.2 q_41 dX3_layNext_98 (fun H locs hP hD hS => ?_)
                  replace hE := EV.up hE hm_31.2 (i := (Int32.toNatClampNeg n)) (show 0 ≤ x4_15.toInt ∧ x4_15.toInt ≤ 5 from by omega)
                  generalize (va_up E15 (R laying 4) (upd (E15 (R laying 4)) (Int32.toNatClampNeg n) x4_15)) = E_42 at hP hD hE
                  refine lv_aload_n hx hb dX3_layNext_99 rfl (lv_at hl 2 rfl) ?_
                  refine lv_iload_n hx hb dX3_layNext_100 rfl (lv_at hl 3 rfl) ?_
                  refine lv_iconst (v := 1) hx hb dX3_layNext_101 (by decide) ?_
                  refine lv_iadd hx hb dX3_layNext_102 ?_
                  refine lv_topi (fun v_43 ev_43 => ?_)
                  have q_44 : v_43.toInt = n.toInt + (1 : Int32).toInt := ow_add ev_43 (by omega) (by omega)
                  refine lv_iload_n hx hb dX3_layNext_103 rfl (lv_at hl 4 rfl) ?_
                  refine lv_iconst (v := 1) hx hb dX3_layNext_104 (by decide) ?_
                  refine lv_iload hx hb dX3_layNext_105 (lv_at hl 1 rfl) ?_
                  refine lv_ishl hx hb dX3_layNext_107 ?_
                  refine lv_topi (fun v_45 ev_45 => ?_)
                  refine lv_ior hx hb dX3_layNext_108 ?_
                  refine lv_topi (fun v_46 ev_46 => ?_)
                  refine lv_iload_n hx hb dX3_layNext_109 rfl (lv_at hl 5 rfl) ?_
                  refine lv_aload_n hx hb dX3_layNext_110 rfl (lv_at hl 2 rfl) ?_
                  refine cg_10_1_3 hx hb ht hown hK hN hP h_laying.1 h_laying.2 dX3_layNext_111 ?_
                  have hm_47 : (R laying 1) ∈ L ∧ K (R laying 1) = 41 := RT.o hRT h_laying.1 h_laying.2 1 (by decide)
                  refine lv_iload hx hb dX3_layNext_114 (lv_at hl 1 rfl) ?_
                  have q_48 : vp_in x4_15 6 := vp_in_iff.mpr ⟨by omega, by omega⟩
                  refine cl_41 hx hb hK hP hm_47.1 hm_47.2 q_48 dX3_layNext_116 ?_
                  refine lv_topi (fun v_49 ev_49 => ?_)
                  refine lv_iadd hx hb dX3_layNext_117 ?_
                  refine lv_topi (fun v_50 ev_50 => ?_)
                  refine lv_iload hx hb dX3_layNext_118 (lv_at hl 0 rfl) ?_
                  refine lv_isub hx hb dX3_layNext_120 ?_
                  refine lv_topi (fun v_51 ev_51 => ?_)
                  have hFc := fr_free hD hS hA
                  refine va_callv (va_runS (As := [.ref laying, .int v_43, .int v_46, .int v_51]) (rest := []) ⟨hx, hb, hml, hown, ht⟩ (l_next2 l G cy _ tq qq wq fo L K R T I15 E_42 J15 B15 laying v_43 v_46 v_51 hRT hI hE h_laying.1 h_laying.2 (by omega)) (va_cwS 4 ht (gs k_745 k_746 k_747 k_744) rfl rfl rfl (by decide +kernel) ⟨Nat.le_of_ble_eq_true rfl, Nat.le_of_ble_eq_true rfl⟩) ⟨EnX.blind, fun U hU hW => ⟨rfl, En.of hU hW hP hK hD hN, XK.of hX hS hFc hU hW⟩⟩ rfl rfl hl.1 rfl (lv_room (Nat.le_of_ble_eq_true rfl)) dX3_layNext_121 ⟨Nat.le_of_ble_eq_true rfl, Nat.le_of_ble_eq_true rfl⟩) hS (fun q _ h => hFc q h) hFc (fun u_52 t9 H locs ht9 hvm hw hB hz1 hk1 hS => ?_)
                  obtain ⟨I52, J52, E52, B52⟩ := u_52
                  obtain ⟨hP1, hD1⟩ := hB
                  rw [ht9] at hP1
                  clear hI hE
                  obtain ⟨hI, hE, xu_52I, wu_52⟩ := hw
                  dsimp only at hI hE xu_52I wu_52
                  have hP : va_P G vwCl (WC cy L K R I52 J52 E52 B52) H := hP1
                  have hD : va_D A (WC cy L K R I52 J52 E52 B52) := hD1.weaken (fun _ _ _ h => hFc _ h)
                  clear hFc hk1 hz1 hP1 hD1
                  replace hC_0 := FI.tr hC_0 xu_52I (by decide)
                  replace hX_15 := FI.tr hX_15 xu_52I (by decide)
                  obtain ⟨v_53, ev_53⟩ : ∃ y : Int32, y = x4_15 + 1 := ⟨_, rfl⟩
                  refine lv_iinc (v := v_53) (lv' := [(4, .int v_53), (5, .int v_40), (0, .ref laying), (1, .int n), (2, .int n2), (3, .int n3)]) hx hb dX3_layNext_124 hl (k := 1) rfl (by rw [ev_53]; rfl) (by decide) rfl (fun ls hl => ?_)
                  have q_54 : v_53.toInt = x4_15.toInt + 1 := by have := ow_add ev_53 (by omega) (by omega); omega
                  refine lv_goto (tgt := 47) hx hb dX3_layNext_127 (by decide) ?_
                  refine W.widen (k := 0) (n := 0) (Nat.le_of_ble_eq_true rfl) (Nat.le_of_ble_eq_true rfl) ?_
                  exact ih_15 v_53 I52 J52 E52 B52 _ _ _ hI hE hX_15 (by omega) (by omega) hP hD hS (lv_sub hl [0, 2, 3, 4, 5] rfl)
                · have q_55 : n.toInt = (0 : Int32).toInt := (ow_eq _ _).mp c_28
                  exfalso
                  omega
        exact lp_15 _ (0) I J E B _ _ _ hI hE FI.rf (by omega) (Nat.lt_succ_self _) hP hD hS (lv_sub hl [0, 1, 2, 3, 4] rfl)
      · have q_56 : (6 : Int32).toInt ≤ n.toInt := by have := (not_congr (ow_lt _ _)).mp c_13; omega
        exfalso
        omega
  · have q_57 : (I laying 6).toInt ≤ n3.toInt := by have := (not_congr (ow_lt _ _)).mp c_1; omega
    refine W.widen (k := 0) (n := 0) (Nat.le_of_ble_eq_true rfl) (Nat.le_of_ble_eq_true rfl) ?_
    exact W.vret hx hb hr (fun t ht9 hW => ⟨⟨(I, J, E, B), rfl, ⟨hI, hE, hC_0, trivial⟩, ⟨by rw [ht9]; exact hP, hD⟩⟩, hS.F ht9⟩) hS.2.2 dX3_layNext_8
set_option maxHeartbeats 4000000 in
set_option maxRecDepth 100000 in
theorem l_next0 (l : Launch) (G : va_G) (cy : Nat → ClassId) (sz : Nat) (tq qq wq : Nat) (fo : Option Nat) (L : List Nat) (K : Nat → Nat) (R : Nat → Nat → Nat) (T : Int) (I E : Nat → Nat → Int32) (J B : Nat → Nat → Int64) (laying : Nat) (n : Int32) (n2 : Int32) (n3 : Int32) (hRT : RT L K R) (hI : IV T L K I) (hE : EV L K E) (h_laying1 : laying ∈ L) (h_laying2 : K laying = 10) (h_n : 0 ≤ n.toInt ∧ n.toInt ≤ 0) : Met l yX3_layNext (.code yX3_layNext cX3_layNext 6 none :: TBg) ({ frames := 8, cells := 0, slots := 0, locals := 512 }) (va_Pc [.ref laying, .int n, .int n2, .int n3] (EnX G cy (WC cy L K R I J E B) sz tq qq wq fo (va_A (WC cy L K R I J E B) sz))) (va_Qv (fun (u : (Nat → Nat → Int32) × (Nat → Nat → Int64) × (Nat → Nat → Int32) × (Nat → Nat → Int64)) => IV T L K u.1 ∧ EV L K u.2.2.1 ∧ FI [(10, 6)] K I u.1 ∧ (True)) (fun u t => Ex G (va_A (WC cy L K R I J E B) sz) (WC cy L K R u.1 u.2.1 u.2.2.1 u.2.2.2) t) (va_A (WC cy L K R I J E B) sz)) 0 0 (va_A (WC cy L K R I J E B) sz) := by
  have h_laying : laying ∈ L ∧ K laying = 10 := ⟨h_laying1, h_laying2⟩
  refine Met.ofW (cc := cX3_layNext) (maxL := 6) (ret := none) (by decide) rfl ?_
  intro p e s m args below meth c s₁ B9 hml hv9
  obtain ⟨rfl, ⟨hsz, hP, hK, hD0, hN⟩, hX⟩ := hv9
  have hx := B9.exec
  have hb := B9.bytes
  have hr := B9.returns
  have hts := atoms_spec (ws := .code yX3_layNext cX3_layNext 6 none :: TBg) B9.pre
  have ht : ∀ w ∈ TBg, w.before _ s = true := fun w h => hts w (List.mem_cons_of_mem _ h)
  have hown : s.vm.findClass RX3 = some m.cls := findClass_of_methodNamed B9.named
  have hlocks := B9.notSynchronized
  subst hsz
  have hD := hD0.self (sz := s.heap.size)
  generalize hAe : va_A (WC cy L K R I J E B) s.heap.size = A at hD hX ⊢
  have hA : ∀ q : Nat, s.heap.size ≤ q → A q := fun q h => by rw [← hAe]; exact Or.inr h
  have hS : va_S A s.heap s.heap [] := va_S.rf
  have hl := lv_entry ([.ref laying, .int n, .int n2, .int n3]) (n := 6) (Nat.le_of_ble_eq_true rfl)
  rw [lg_entry_eq]
  generalize (lg_sl ([.ref laying, .int n, .int n2, .int n3]) ++ List.replicate (6 - (lg_sl ([.ref laying, .int n, .int n2, .int n3])).length) Slot.unset).toArray = ls at hl ⊢
  have hl : lv_has ls 6 [(0, .ref laying), (1, .int n), (2, .int n2), (3, .int n3)] := hl
  have z0 : (0 : Int32).toInt = 0 := by decide
  have z1 : (1 : Int32).toInt = 1 := by decide
  have z2 : (6 : Int32).toInt = 6 := by decide
  have hC_0 : FI [(10, 6)] K I I := FI.rf
  refine lv_iload_n hx hb dX3_layNext_0 rfl (lv_at hl 3 rfl) ?_
  refine lv_aload_n hx hb dX3_layNext_1 rfl (lv_at hl 0 rfl) ?_
  refine cg_10_6_3 hx hb ht hown hK hN hP h_laying.1 h_laying.2 dX3_layNext_2 ?_
  refine lv_icmp_lt (tgt := 9) hx hb dX3_layNext_5 (by decide) (fun c_1 => ?_) (fun c_1 => ?_)
  · have q_2 : n3.toInt < (I laying 6).toInt := (ow_lt _ _).mp c_1
    refine lv_iload_n hx hb dX3_layNext_9 rfl (lv_at hl 1 rfl) ?_
    refine lv_aload_n hx hb dX3_layNext_10 rfl (lv_at hl 0 rfl) ?_
    refine cg_10_2_3 hx hb ht hown hK hN hP h_laying.1 h_laying.2 dX3_layNext_11 ?_
    have q_3 : 0 ≤ (I laying 2).toInt ∧ (I laying 2).toInt ≤ 6 := IV.rd hI h_laying.1 h_laying.2 2
    refine lv_icmp_ge (tgt := 23) hx hb dX3_layNext_14 (by decide) (fun c_4 => ?_) (fun c_4 => ?_)
    · have q_5 : (I laying 2).toInt ≤ n.toInt := (ow_le _ _).mp c_4
      refine lv_aload_n hx hb dX3_layNext_23 rfl (lv_at hl 0 rfl) ?_
      refine lv_iload_n hx hb dX3_layNext_24 rfl (lv_at hl 3 rfl) ?_
      refine cp_10_6_3 hx hb ht hown hK hN hP hD hS h_laying.1 h_laying.2 dX3_layNext_25 (fun H locs hP hD hS => ?_)
      replace hI := IV.up hI h_laying.2 6 (ow_any n3)
      have f_6 : FI [(10, 6)] K I (va_up I laying (va_up (I laying) 6 n3)) := FI.up h_laying.2 6 n3
      have e_7 : (va_up I laying (va_up (I laying) 6 n3)) laying 6 = n3 := FI.at I laying 6 n3
      replace hC_0 := FI.tr hC_0 f_6 (by decide)
      generalize (va_up I laying (va_up (I laying) 6 n3)) = I_8 at hP hD hI f_6 e_7 hC_0
      refine lv_aload_n hx hb dX3_layNext_28 rfl (lv_at hl 0 rfl) ?_
      refine cg_10_4_3 hx hb ht hown hK hN hP h_laying.1 h_laying.2 dX3_layNext_29 ?_
      have hm_9 : (R laying 4) ∈ L ∧ K (R laying 4) = 44 := RT.o hRT h_laying.1 h_laying.2 4 (by decide)
      refine lv_iconst (v := 0) hx hb dX3_layNext_32 (by decide) ?_
      refine lv_aload_n hx hb dX3_layNext_33 rfl (lv_at hl 0 rfl) ?_
      refine cg_10_5_3 hx hb ht hown hK hN hP h_laying.1 h_laying.2 dX3_layNext_34 ?_
      have hm_10 : (R laying 5) ∈ L ∧ K (R laying 5) = 45 := RT.o hRT h_laying.1 h_laying.2 5 (by decide)
      refine lv_iconst (v := 0) hx hb dX3_layNext_37 (by decide) ?_
      refine lv_bipush (v := 6) hx hb dX3_layNext_38 (by decide) ?_
      refine cc_44_45 hx hb (by rw [hml]; exact hl.1.symm) hown (ht _ k_743) (ht _ k_514) (ht _ k_515) (ht _ k_516) hK hP hD hS hm_9.1 hm_9.2 hm_10.1 hm_10.2 (Nat.le_of_ble_eq_true rfl) (Nat.le_of_ble_eq_true rfl) dX3_layNext_40 (fun g9 hg9 H locs hP hD hS => ?_)
      replace hE := EV.set hE hm_10.2 (g := g9) (fun j hj => hg9 j hj ▸ EV.at hE hm_9.1 hm_9.2 j hj)
      generalize (va_up E (R laying 5) g9) = E_11 at hP hD hE
      refine W.widen (k := 0) (n := 0) (Nat.le_of_ble_eq_true rfl) (Nat.le_of_ble_eq_true rfl) ?_
      exact W.vret hx hb hr (fun t ht9 hW => ⟨⟨(I_8, J, E_11, B), rfl, ⟨hI, hE, hC_0, trivial⟩, ⟨by rw [ht9]; exact hP, hD⟩⟩, hS.F ht9⟩) hS.2.2 dX3_layNext_43
    · have q_12 : n.toInt < (I laying 2).toInt := by have := (not_congr (ow_le _ _)).mp c_4; omega
      refine lv_iload_n hx hb dX3_layNext_17 rfl (lv_at hl 1 rfl) ?_
      refine lv_bipush (v := 6) hx hb dX3_layNext_18 (by decide) ?_
      refine lv_icmp_lt (tgt := 44) hx hb dX3_layNext_20 (by decide) (fun c_13 => ?_) (fun c_13 => ?_)
      · have q_14 : n.toInt < (6 : Int32).toInt := (ow_lt _ _).mp c_13
        refine lv_iconst (v := 0) hx hb dX3_layNext_44 (by decide) ?_
        refine lv_istore (lv' := [(4, .int 0), (0, .ref laying), (1, .int n), (2, .int n2), (3, .int n3)]) hx hb dX3_layNext_45 hl (by decide) rfl (fun ls hl => ?_)
        refine W.widen (k := 0) (n := 0) (Nat.le_of_ble_eq_true rfl) (Nat.le_of_ble_eq_true rfl) ?_
        have lp_15 : ∀ (N_15 : Nat) (x4_15 : Int32) (I15 : Nat → Nat → Int32) (J15 : Nat → Nat → Int64) (E15 : Nat → Nat → Int32) (B15 : Nat → Nat → Int64) (H : Heap) (locs : List Loc) (ls : Array Slot), IV T L K I15 → EV L K E15 → FI [(10, 6)] K I I15 → (0 ≤ x4_15.toInt ∧ x4_15.toInt ≤ 6) → (6 - x4_15.toInt).toNat < N_15 → va_P G vwCl (WC cy L K R I15 J15 E15 B15) H → va_D A (WC cy L K R I15 J15 E15 B15) → va_S A s.heap H locs → lv_has ls 6 [(4, .int x4_15), (0, .ref laying), (1, .int n), (2, .int n2), (3, .int n3)] → W p l e (headSpec (.code yX3_layNext cX3_layNext 6 none :: TBg) ({ frames := 8, cells := 0, slots := 0, locals := 512 })).room s m ([.ref laying, .int n, .int n2, .int n3] : List Value).toArray below meth c H locs 0 0 (MQ below (va_Qv (fun (u : (Nat → Nat → Int32) × (Nat → Nat → Int64) × (Nat → Nat → Int32) × (Nat → Nat → Int64)) => IV T L K u.1 ∧ EV L K u.2.2.1 ∧ FI [(10, 6)] K I u.1 ∧ (True)) (fun u t => Ex G A (WC cy L K R u.1 u.2.1 u.2.2.1 u.2.2.2) t) A) ([.ref laying, .int n, .int n2, .int n3] : List Value).toArray s 0 0 A) (F0 m 47 ls []) := by
          intro N_15
          induction N_15 with
          | zero => intro x4_15 I15 J15 E15 B15 H locs ls hI hE hC_15 qf15_0 hm9 hP hD hS hl; exact absurd hm9 (Nat.not_lt_zero _)
          | succ N_15 ih_15 =>
            intro x4_15 I15 J15 E15 B15 H locs ls hI hE hC_15 qf15_0 hm9 hP hD hS hl
            replace hC_0 := FI.tr hC_0 hC_15 (by decide)
            have hX_15 := hC_15
            refine lv_iload hx hb dX3_layNext_47 (lv_at hl 0 rfl) ?_
            refine lv_aload_n hx hb dX3_layNext_49 rfl (lv_at hl 1 rfl) ?_
            refine cg_10_2_3 hx hb ht hown hK hN hP h_laying.1 h_laying.2 dX3_layNext_50 ?_
            refine ow_top (I laying 2) (hC_15 laying 2 (by rw [h_laying.2]; decide)) ?_
            have q_16 : 0 ≤ (I laying 2).toInt ∧ (I laying 2).toInt ≤ 6 := by have h9 : I15 laying 2 = (I laying 2) := (hC_15 laying 2 (by rw [h_laying.2]; decide)); rw [← h9]; exact IV.rd hI h_laying.1 h_laying.2 2
            refine lv_icmp_ge (tgt := 130) hx hb dX3_layNext_53 (by decide) (fun c_17 => ?_) (fun c_17 => ?_)
            · have q_18 : (I laying 2).toInt ≤ x4_15.toInt := (ow_le _ _).mp c_17
              refine W.widen (k := 0) (n := 0) (Nat.le_of_ble_eq_true rfl) (Nat.le_of_ble_eq_true rfl) ?_
              exact W.vret hx hb hr (fun t ht9 hW => ⟨⟨(I15, J15, E15, B15), rfl, ⟨hI, hE, hC_0, trivial⟩, ⟨by rw [ht9]; exact hP, hD⟩⟩, hS.F ht9⟩) hS.2.2 dX3_layNext_130
            · have q_19 : x4_15.toInt < (I laying 2).toInt := by have := (not_congr (ow_le _ _)).mp c_17; omega
              refine lv_iload_n hx hb dX3_layNext_56 rfl (lv_at hl 3 rfl) ?_
              refine lv_iload hx hb dX3_layNext_57 (lv_at hl 0 rfl) ?_
              refine lv_ishr hx hb dX3_layNext_59 ?_
              refine lv_topi (fun v_20 ev_20 => ?_)
              refine lv_iconst (v := 1) hx hb dX3_layNext_60 (by decide) ?_
              refine lv_iand hx hb dX3_layNext_61 ?_
              refine lv_topi (fun v_21 ev_21 => ?_)
              have q_22 : 0 ≤ v_21.toInt ∧ v_21.toInt ≤ 1 := by rw [ev_21]; exact ow_and1 _
              refine lv_if_ne (tgt := 124) hx hb dX3_layNext_62 (by decide) (fun c_23 => ?_) (fun c_23 => ?_)
              · have q_24 : ¬ v_21.toInt = (0 : Int32).toInt := by have := (not_congr (ow_eq _ _)).mp c_23; omega
                obtain ⟨v_25, ev_25⟩ : ∃ y : Int32, y = x4_15 + 1 := ⟨_, rfl⟩
                refine lv_iinc (v := v_25) (lv' := [(4, .int v_25), (0, .ref laying), (1, .int n), (2, .int n2), (3, .int n3)]) hx hb dX3_layNext_124 hl (k := 0) rfl (by rw [ev_25]; rfl) (by decide) rfl (fun ls hl => ?_)
                have q_26 : v_25.toInt = x4_15.toInt + 1 := by have := ow_add ev_25 (by omega) (by omega); omega
                refine lv_goto (tgt := 47) hx hb dX3_layNext_127 (by decide) ?_
                refine W.widen (k := 0) (n := 0) (Nat.le_of_ble_eq_true rfl) (Nat.le_of_ble_eq_true rfl) ?_
                exact ih_15 v_25 I15 J15 E15 B15 _ _ _ hI hE hX_15 (by omega) (by omega) hP hD hS (lv_sub hl [0, 1, 2, 3, 4] rfl)
              · have q_27 : v_21.toInt = (0 : Int32).toInt := (ow_eq _ _).mp c_23
                refine lv_iload_n hx hb dX3_layNext_65 rfl (lv_at hl 2 rfl) ?_
                refine lv_if_ne (tgt := 73) hx hb dX3_layNext_66 (by decide) (fun c_28 => ?_) (fun c_28 => ?_)
                · have q_29 : ¬ n.toInt = (0 : Int32).toInt := by have := (not_congr (ow_eq _ _)).mp c_28; omega
                  exfalso
                  omega
                · have q_30 : n.toInt = (0 : Int32).toInt := (ow_eq _ _).mp c_28
                  refine lv_iconst (v := 0) hx hb dX3_layNext_69 (by decide) ?_
                  refine lv_goto (tgt := 89) hx hb dX3_layNext_70 (by decide) ?_
                  refine lv_istore (lv' := [(5, .int 0), (4, .int x4_15), (0, .ref laying), (1, .int n), (2, .int n2), (3, .int n3)]) hx hb dX3_layNext_89 hl (by decide) rfl (fun ls hl => ?_)
                  refine lv_aload_n hx hb dX3_layNext_91 rfl (lv_at hl 2 rfl) ?_
                  refine cg_10_4_3 hx hb ht hown hK hN hP h_laying.1 h_laying.2 dX3_layNext_92 ?_
                  have hm_31 : (R laying 4) ∈ L ∧ K (R laying 4) = 44 := RT.o hRT h_laying.1 h_laying.2 4 (by decide)
                  refine lv_iload_n hx hb dX3_layNext_95 rfl (lv_at hl 3 rfl) ?_
                  refine lv_iload hx hb dX3_layNext_96 (lv_at hl 1 rfl) ?_
                  have q_32 : vp_in n 6 := vp_in_iff.mpr ⟨by omega, by omega⟩
                  refine cs_44 hx hb hK hP hD hS hm_31.1 hm_31.2 q_32 dX3_layNext_98 (fun H locs hP hD hS => ?_)
                  replace hE := EV.up hE hm_31.2 (i := (Int32.toNatClampNeg n)) (show 0 ≤ x4_15.toInt ∧ x4_15.toInt ≤ 5 from by omega)
                  generalize (va_up E15 (R laying 4) (upd (E15 (R laying 4)) (Int32.toNatClampNeg n) x4_15)) = E_33 at hP hD hE
                  refine lv_aload_n hx hb dX3_layNext_99 rfl (lv_at hl 2 rfl) ?_
                  refine lv_iload_n hx hb dX3_layNext_100 rfl (lv_at hl 3 rfl) ?_
                  refine lv_iconst (v := 1) hx hb dX3_layNext_101 (by decide) ?_
                  refine lv_iadd hx hb dX3_layNext_102 ?_
                  refine lv_topi (fun v_34 ev_34 => ?_)
                  have q_35 : v_34.toInt = n.toInt + (1 : Int32).toInt := ow_add ev_34 (by omega) (by omega)
                  refine lv_iload_n hx hb dX3_layNext_103 rfl (lv_at hl 4 rfl) ?_
                  refine lv_iconst (v := 1) hx hb dX3_layNext_104 (by decide) ?_
                  refine lv_iload hx hb dX3_layNext_105 (lv_at hl 1 rfl) ?_
                  refine lv_ishl hx hb dX3_layNext_107 ?_
                  refine lv_topi (fun v_36 ev_36 => ?_)
                  refine lv_ior hx hb dX3_layNext_108 ?_
                  refine lv_topi (fun v_37 ev_37 => ?_)
                  refine lv_iload_n hx hb dX3_layNext_109 rfl (lv_at hl 5 rfl) ?_
                  refine lv_aload_n hx hb dX3_layNext_110 rfl (lv_at hl 2 rfl) ?_
                  refine cg_10_1_3 hx hb ht hown hK hN hP h_laying.1 h_laying.2 dX3_layNext_111 ?_
                  have hm_38 : (R laying 1) ∈ L ∧ K (R laying 1) = 41 := RT.o hRT h_laying.1 h_laying.2 1 (by decide)
                  refine lv_iload hx hb dX3_layNext_114 (lv_at hl 1 rfl) ?_
                  have q_39 : vp_in x4_15 6 := vp_in_iff.mpr ⟨by omega, by omega⟩
                  refine cl_41 hx hb hK hP hm_38.1 hm_38.2 q_39 dX3_layNext_116 ?_
                  refine lv_topi (fun v_40 ev_40 => ?_)
                  refine lv_iadd hx hb dX3_layNext_117 ?_
                  refine lv_topi (fun v_41 ev_41 => ?_)
                  refine lv_iload hx hb dX3_layNext_118 (lv_at hl 0 rfl) ?_
                  refine lv_isub hx hb dX3_layNext_120 ?_
                  refine lv_topi (fun v_42 ev_42 => ?_)
                  have hFc := fr_free hD hS hA
                  refine va_callv (va_runS (As := [.ref laying, .int v_34, .int v_37, .int v_42]) (rest := []) ⟨hx, hb, hml, hown, ht⟩ (l_next1 l G cy _ tq qq wq fo L K R T I15 E_33 J15 B15 laying v_34 v_37 v_42 hRT hI hE h_laying.1 h_laying.2 (by omega)) (va_cwS 4 ht (gs k_745 k_746 k_747 k_744) rfl rfl rfl (by decide +kernel) ⟨Nat.le_of_ble_eq_true rfl, Nat.le_of_ble_eq_true rfl⟩) ⟨EnX.blind, fun U hU hW => ⟨rfl, En.of hU hW hP hK hD hN, XK.of hX hS hFc hU hW⟩⟩ rfl rfl hl.1 rfl (lv_room (Nat.le_of_ble_eq_true rfl)) dX3_layNext_121 ⟨Nat.le_of_ble_eq_true rfl, Nat.le_of_ble_eq_true rfl⟩) hS (fun q _ h => hFc q h) hFc (fun u_43 t9 H locs ht9 hvm hw hB hz1 hk1 hS => ?_)
                  obtain ⟨I43, J43, E43, B43⟩ := u_43
                  obtain ⟨hP1, hD1⟩ := hB
                  rw [ht9] at hP1
                  clear hI hE
                  obtain ⟨hI, hE, xu_43I, wu_43⟩ := hw
                  dsimp only at hI hE xu_43I wu_43
                  have hP : va_P G vwCl (WC cy L K R I43 J43 E43 B43) H := hP1
                  have hD : va_D A (WC cy L K R I43 J43 E43 B43) := hD1.weaken (fun _ _ _ h => hFc _ h)
                  clear hFc hk1 hz1 hP1 hD1
                  replace hC_0 := FI.tr hC_0 xu_43I (by decide)
                  replace hX_15 := FI.tr hX_15 xu_43I (by decide)
                  obtain ⟨v_44, ev_44⟩ : ∃ y : Int32, y = x4_15 + 1 := ⟨_, rfl⟩
                  refine lv_iinc (v := v_44) (lv' := [(4, .int v_44), (5, .int 0), (0, .ref laying), (1, .int n), (2, .int n2), (3, .int n3)]) hx hb dX3_layNext_124 hl (k := 1) rfl (by rw [ev_44]; rfl) (by decide) rfl (fun ls hl => ?_)
                  have q_45 : v_44.toInt = x4_15.toInt + 1 := by have := ow_add ev_44 (by omega) (by omega); omega
                  refine lv_goto (tgt := 47) hx hb dX3_layNext_127 (by decide) ?_
                  refine W.widen (k := 0) (n := 0) (Nat.le_of_ble_eq_true rfl) (Nat.le_of_ble_eq_true rfl) ?_
                  exact ih_15 v_44 I43 J43 E43 B43 _ _ _ hI hE hX_15 (by omega) (by omega) hP hD hS (lv_sub hl [0, 2, 3, 4, 5] rfl)
        exact lp_15 _ (0) I J E B _ _ _ hI hE FI.rf (by omega) (Nat.lt_succ_self _) hP hD hS (lv_sub hl [0, 1, 2, 3, 4] rfl)
      · have q_46 : (6 : Int32).toInt ≤ n.toInt := by have := (not_congr (ow_lt _ _)).mp c_13; omega
        exfalso
        omega
  · have q_47 : (I laying 6).toInt ≤ n3.toInt := by have := (not_congr (ow_lt _ _)).mp c_1; omega
    refine W.widen (k := 0) (n := 0) (Nat.le_of_ble_eq_true rfl) (Nat.le_of_ble_eq_true rfl) ?_
    exact W.vret hx hb hr (fun t ht9 hW => ⟨⟨(I, J, E, B), rfl, ⟨hI, hE, hC_0, trivial⟩, ⟨by rw [ht9]; exact hP, hD⟩⟩, hS.F ht9⟩) hS.2.2 dX3_layNext_8
set_option maxHeartbeats 4000000 in
set_option maxRecDepth 100000 in
theorem l_lay (l : Launch) (G : va_G) (cy : Nat → ClassId) (sz : Nat) (tq qq wq : Nat) (fo : Option Nat) (L : List Nat) (K : Nat → Nat) (R : Nat → Nat → Nat) (T : Int) (I E : Nat → Nat → Int32) (J B : Nat → Nat → Int64) (this : Nat) (town : Nat) (n : Int32) (hRT : RT L K R) (hI : IV T L K I) (hE : EV L K E) (hthis1 : this ∈ L) (hthis2 : K this = 10) (h_town1 : town ∈ L) (h_town2 : K town = 1) : Met l yX3_lay (.code yX3_lay cX3_lay 5 none :: TBg) ({ frames := 9, cells := 0, slots := 0, locals := 576 }) (va_Pc [.ref this, .ref town, .int n] (EnX G cy (WC cy L K R I J E B) sz tq qq wq fo (va_A (WC cy L K R I J E B) sz))) (va_Qv (fun (u : (Nat → Nat → Int32) × (Nat → Nat → Int64) × (Nat → Nat → Int32) × (Nat → Nat → Int64)) => IV T L K u.1 ∧ EV L K u.2.2.1 ∧ FI [(10, 2), (10, 6)] K I u.1 ∧ (True)) (fun u t => Ex G (va_A (WC cy L K R I J E B) sz) (WC cy L K R u.1 u.2.1 u.2.2.1 u.2.2.2) t) (va_A (WC cy L K R I J E B) sz)) 0 0 (va_A (WC cy L K R I J E B) sz) := by
  have hthis : this ∈ L ∧ K this = 10 := ⟨hthis1, hthis2⟩
  have h_town : town ∈ L ∧ K town = 1 := ⟨h_town1, h_town2⟩
  refine Met.ofW (cc := cX3_lay) (maxL := 5) (ret := none) (by decide) rfl ?_
  intro p e s m args below meth c s₁ B9 hml hv9
  obtain ⟨rfl, ⟨hsz, hP, hK, hD0, hN⟩, hX⟩ := hv9
  have hx := B9.exec
  have hb := B9.bytes
  have hr := B9.returns
  have hts := atoms_spec (ws := .code yX3_lay cX3_lay 5 none :: TBg) B9.pre
  have ht : ∀ w ∈ TBg, w.before _ s = true := fun w h => hts w (List.mem_cons_of_mem _ h)
  have hown : s.vm.findClass RX3 = some m.cls := findClass_of_methodNamed B9.named
  have hlocks := B9.notSynchronized
  subst hsz
  have hD := hD0.self (sz := s.heap.size)
  generalize hAe : va_A (WC cy L K R I J E B) s.heap.size = A at hD hX ⊢
  have hA : ∀ q : Nat, s.heap.size ≤ q → A q := fun q h => by rw [← hAe]; exact Or.inr h
  have hS : va_S A s.heap s.heap [] := va_S.rf
  have hl := lv_entry ([.ref this, .ref town, .int n]) (n := 5) (Nat.le_of_ble_eq_true rfl)
  rw [lg_entry_eq]
  generalize (lg_sl ([.ref this, .ref town, .int n]) ++ List.replicate (5 - (lg_sl ([.ref this, .ref town, .int n])).length) Slot.unset).toArray = ls at hl ⊢
  have hl : lv_has ls 5 [(0, .ref this), (1, .ref town), (2, .int n)] := hl
  have z0 : (0 : Int32).toInt = 0 := by decide
  have z1 : (1 : Int32).toInt = 1 := by decide
  have z2 : (6 : Int32).toInt = 6 := by decide
  have z3 : (73 : Int32).toInt = 73 := by decide
  have hC_0 : FI [(10, 2), (10, 6)] K I I := FI.rf
  refine lv_aload_n hx hb dX3_lay_0 rfl (lv_at hl 0 rfl) ?_
  refine lv_iconst (v := 0) hx hb dX3_lay_1 (by decide) ?_
  refine cp_10_2_3 hx hb ht hown hK hN hP hD hS hthis.1 hthis.2 dX3_lay_2 (fun H locs hP hD hS => ?_)
  replace hI := IV.up hI hthis.2 2 (show 0 ≤ (0 : Int32).toInt ∧ (0 : Int32).toInt ≤ 6 from by omega)
  have f_1 : FI [(10, 2)] K I (va_up I this (va_up (I this) 2 0)) := FI.up hthis.2 2 (0 : Int32)
  have e_2 : (va_up I this (va_up (I this) 2 0)) this 2 = 0 := FI.at I this 2 (0 : Int32)
  replace hC_0 := FI.tr hC_0 f_1 (by decide)
  generalize (va_up I this (va_up (I this) 2 0)) = I_3 at hP hD hI f_1 e_2 hC_0
  refine lv_iconst (v := 0) hx hb dX3_lay_5 (by decide) ?_
  refine lv_istore_n (lv' := [(3, .int 0), (0, .ref this), (1, .ref town), (2, .int n)]) hx hb dX3_lay_6 rfl hl (by decide) rfl (fun ls hl => ?_)
  refine W.widen (k := 0) (n := 0) (Nat.le_of_ble_eq_true rfl) (Nat.le_of_ble_eq_true rfl) ?_
  have lp_4 : ∀ (N_4 : Nat) (x3_4 : Int32) (I4 : Nat → Nat → Int32) (J4 : Nat → Nat → Int64) (E4 : Nat → Nat → Int32) (B4 : Nat → Nat → Int64) (H : Heap) (locs : List Loc) (ls : Array Slot), IV T L K I4 → EV L K E4 → FI [(10, 2), (10, 6)] K I_3 I4 → (0 ≤ x3_4.toInt ∧ x3_4.toInt ≤ 14) → (14 - x3_4.toInt).toNat < N_4 → va_P G vwCl (WC cy L K R I4 J4 E4 B4) H → va_D A (WC cy L K R I4 J4 E4 B4) → va_S A s.heap H locs → lv_has ls 5 [(3, .int x3_4), (0, .ref this), (1, .ref town), (2, .int n)] → W p l e (headSpec (.code yX3_lay cX3_lay 5 none :: TBg) ({ frames := 9, cells := 0, slots := 0, locals := 576 })).room s m ([.ref this, .ref town, .int n] : List Value).toArray below meth c H locs 0 0 (MQ below (va_Qv (fun (u : (Nat → Nat → Int32) × (Nat → Nat → Int64) × (Nat → Nat → Int32) × (Nat → Nat → Int64)) => IV T L K u.1 ∧ EV L K u.2.2.1 ∧ FI [(10, 2), (10, 6)] K I u.1 ∧ (True)) (fun u t => Ex G A (WC cy L K R u.1 u.2.1 u.2.2.1 u.2.2.2) t) A) ([.ref this, .ref town, .int n] : List Value).toArray s 0 0 A) (F0 m 7 ls []) := by
    intro N_4
    induction N_4 with
    | zero => intro x3_4 I4 J4 E4 B4 H locs ls hI hE hC_4 qf4_0 hm9 hP hD hS hl; exact absurd hm9 (Nat.not_lt_zero _)
    | succ N_4 ih_4 =>
      intro x3_4 I4 J4 E4 B4 H locs ls hI hE hC_4 qf4_0 hm9 hP hD hS hl
      replace hC_0 := FI.tr hC_0 hC_4 (by decide)
      have hX_4 := hC_4
      refine lv_iload_n hx hb dX3_lay_7 rfl (lv_at hl 0 rfl) ?_
      refine lv_aload_n hx hb dX3_lay_8 rfl (lv_at hl 2 rfl) ?_
      refine cg_1_3_3 hx hb ht hown hK hN hP h_town.1 h_town.2 dX3_lay_9 ?_
      refine ow_top (I town 3) ((hC_4 town 3 (by rw [h_town.2]; decide)).trans (f_1 town 3 (by rw [h_town.2]; decide))) ?_
      have q_5 : 0 ≤ (I town 3).toInt ∧ (I town 3).toInt ≤ 14 := by have h9 : I4 town 3 = (I town 3) := ((hC_4 town 3 (by rw [h_town.2]; decide)).trans (f_1 town 3 (by rw [h_town.2]; decide))); rw [← h9]; exact IV.rd hI h_town.1 h_town.2 3
      refine lv_icmp_ge (tgt := 85) hx hb dX3_lay_12 (by decide) (fun c_6 => ?_) (fun c_6 => ?_)
      · have q_7 : (I town 3).toInt ≤ x3_4.toInt := (ow_le _ _).mp c_6
        refine lv_iconst (v := 0) hx hb dX3_lay_85 (by decide) ?_
        refine lv_istore_n (lv' := [(3, .int 0), (0, .ref this), (1, .ref town), (2, .int n)]) hx hb dX3_lay_86 rfl hl (by decide) rfl (fun ls hl => ?_)
        refine W.widen (k := 0) (n := 0) (Nat.le_of_ble_eq_true rfl) (Nat.le_of_ble_eq_true rfl) ?_
        have lp_8 : ∀ (N_8 : Nat) (x3_8 : Int32) (I8 : Nat → Nat → Int32) (J8 : Nat → Nat → Int64) (E8 : Nat → Nat → Int32) (B8 : Nat → Nat → Int64) (H : Heap) (locs : List Loc) (ls : Array Slot), IV T L K I8 → EV L K E8 → FI [(10, 2), (10, 6)] K I4 I8 → (0 ≤ x3_8.toInt ∧ x3_8.toInt ≤ 6) → (6 - x3_8.toInt).toNat < N_8 → va_P G vwCl (WC cy L K R I8 J8 E8 B8) H → va_D A (WC cy L K R I8 J8 E8 B8) → va_S A s.heap H locs → lv_has ls 5 [(3, .int x3_8), (0, .ref this), (1, .ref town), (2, .int n)] → W p l e (headSpec (.code yX3_lay cX3_lay 5 none :: TBg) ({ frames := 9, cells := 0, slots := 0, locals := 576 })).room s m ([.ref this, .ref town, .int n] : List Value).toArray below meth c H locs 0 0 (MQ below (va_Qv (fun (u : (Nat → Nat → Int32) × (Nat → Nat → Int64) × (Nat → Nat → Int32) × (Nat → Nat → Int64)) => IV T L K u.1 ∧ EV L K u.2.2.1 ∧ FI [(10, 2), (10, 6)] K I u.1 ∧ (True)) (fun u t => Ex G A (WC cy L K R u.1 u.2.1 u.2.2.1 u.2.2.2) t) A) ([.ref this, .ref town, .int n] : List Value).toArray s 0 0 A) (F0 m 87 ls []) := by
          intro N_8
          induction N_8 with
          | zero => intro x3_8 I8 J8 E8 B8 H locs ls hI hE hC_8 qf8_0 hm9 hP hD hS hl; exact absurd hm9 (Nat.not_lt_zero _)
          | succ N_8 ih_8 =>
            intro x3_8 I8 J8 E8 B8 H locs ls hI hE hC_8 qf8_0 hm9 hP hD hS hl
            replace hC_0 := FI.tr hC_0 hC_8 (by decide)
            have hX_8 := hC_8
            refine lv_iload_n hx hb dX3_lay_87 rfl (lv_at hl 0 rfl) ?_
            refine lv_aload_n hx hb dX3_lay_88 rfl (lv_at hl 1 rfl) ?_
            refine cg_10_2_3 hx hb ht hown hK hN hP hthis.1 hthis.2 dX3_lay_89 ?_
            have q_9 : 0 ≤ (I8 this 2).toInt ∧ (I8 this 2).toInt ≤ 6 := IV.rd hI hthis.1 hthis.2 2
            refine lv_icmp_ge (tgt := 154) hx hb dX3_lay_92 (by decide) (fun c_10 => ?_) (fun c_10 => ?_)
            · have q_11 : (I8 this 2).toInt ≤ x3_8.toInt := (ow_le _ _).mp c_10
              refine lv_aload_n hx hb dX3_lay_154 rfl (lv_at hl 1 rfl) ?_
              refine lv_bipush (v := 73) hx hb dX3_lay_155 (by decide) ?_
              refine cp_10_6_3 hx hb ht hown hK hN hP hD hS hthis.1 hthis.2 dX3_lay_157 (fun H locs hP hD hS => ?_)
              replace hI := IV.up hI hthis.2 6 (ow_any (73 : Int32))
              have f_12 : FI [(10, 6)] K I8 (va_up I8 this (va_up (I8 this) 6 73)) := FI.up hthis.2 6 (73 : Int32)
              have e_13 : (va_up I8 this (va_up (I8 this) 6 73)) this 6 = 73 := FI.at I8 this 6 (73 : Int32)
              replace hC_0 := FI.tr hC_0 f_12 (by decide)
              replace hX_8 := FI.tr hX_8 f_12 (by decide)
              generalize (va_up I8 this (va_up (I8 this) 6 73)) = I_14 at hP hD hI f_12 e_13 hC_0 hX_8
              refine lv_aload_n hx hb dX3_lay_160 rfl (lv_at hl 1 rfl) ?_
              refine lv_iconst (v := 0) hx hb dX3_lay_161 (by decide) ?_
              refine lv_iconst (v := 0) hx hb dX3_lay_162 (by decide) ?_
              refine lv_iconst (v := 0) hx hb dX3_lay_163 (by decide) ?_
              have hFc := fr_free hD hS hA
              refine va_callv (va_runS (As := [.ref this, .int 0, .int 0, .int 0]) (rest := []) ⟨hx, hb, hml, hown, ht⟩ (l_next0 l G cy _ tq qq wq fo L K R T I_14 E8 J8 B8 this (0) (0) (0) hRT hI hE hthis.1 hthis.2 (by omega)) (va_cwS 4 ht (gs k_745 k_746 k_747 k_744) rfl rfl rfl (by decide +kernel) ⟨Nat.le_of_ble_eq_true rfl, Nat.le_of_ble_eq_true rfl⟩) ⟨EnX.blind, fun U hU hW => ⟨rfl, En.of hU hW hP hK hD hN, XK.of hX hS hFc hU hW⟩⟩ rfl rfl hl.1 rfl (lv_room (Nat.le_of_ble_eq_true rfl)) dX3_lay_164 ⟨Nat.le_of_ble_eq_true rfl, Nat.le_of_ble_eq_true rfl⟩) hS (fun q _ h => hFc q h) hFc (fun u_15 t9 H locs ht9 hvm hw hB hz1 hk1 hS => ?_)
              obtain ⟨I15, J15, E15, B15⟩ := u_15
              obtain ⟨hP1, hD1⟩ := hB
              rw [ht9] at hP1
              clear hI hE
              obtain ⟨hI, hE, xu_15I, wu_15⟩ := hw
              dsimp only at hI hE xu_15I wu_15
              have hP : va_P G vwCl (WC cy L K R I15 J15 E15 B15) H := hP1
              have hD : va_D A (WC cy L K R I15 J15 E15 B15) := hD1.weaken (fun _ _ _ h => hFc _ h)
              clear hFc hk1 hz1 hP1 hD1
              replace hC_0 := FI.tr hC_0 xu_15I (by decide)
              replace hX_8 := FI.tr hX_8 xu_15I (by decide)
              refine W.widen (k := 0) (n := 0) (Nat.le_of_ble_eq_true rfl) (Nat.le_of_ble_eq_true rfl) ?_
              exact W.vret hx hb hr (fun t ht9 hW => ⟨⟨(I15, J15, E15, B15), rfl, ⟨hI, hE, hC_0, trivial⟩, ⟨by rw [ht9]; exact hP, hD⟩⟩, hS.F ht9⟩) hS.2.2 dX3_lay_167
            · have q_16 : x3_8.toInt < (I8 this 2).toInt := by have := (not_congr (ow_le _ _)).mp c_10; omega
              refine lv_iconst (v := 0) hx hb dX3_lay_95 (by decide) ?_
              refine lv_istore (lv' := [(4, .int 0), (3, .int x3_8), (0, .ref this), (1, .ref town), (2, .int n)]) hx hb dX3_lay_96 hl (by decide) rfl (fun ls hl => ?_)
              refine W.widen (k := 0) (n := 0) (Nat.le_of_ble_eq_true rfl) (Nat.le_of_ble_eq_true rfl) ?_
              have lp_17 : ∀ (N_17 : Nat) (x4_17 : Int32) (I17 : Nat → Nat → Int32) (J17 : Nat → Nat → Int64) (E17 : Nat → Nat → Int32) (B17 : Nat → Nat → Int64) (H : Heap) (locs : List Loc) (ls : Array Slot), IV T L K I17 → EV L K E17 → FI [(10, 2), (10, 6)] K I8 I17 → (0 ≤ x4_17.toInt ∧ x4_17.toInt ≤ 6) → (6 - x4_17.toInt).toNat < N_17 → va_P G vwCl (WC cy L K R I17 J17 E17 B17) H → va_D A (WC cy L K R I17 J17 E17 B17) → va_S A s.heap H locs → lv_has ls 5 [(4, .int x4_17), (3, .int x3_8), (0, .ref this), (1, .ref town), (2, .int n)] → W p l e (headSpec (.code yX3_lay cX3_lay 5 none :: TBg) ({ frames := 9, cells := 0, slots := 0, locals := 576 })).room s m ([.ref this, .ref town, .int n] : List Value).toArray below meth c H locs 0 0 (MQ below (va_Qv (fun (u : (Nat → Nat → Int32) × (Nat → Nat → Int64) × (Nat → Nat → Int32) × (Nat → Nat → Int64)) => IV T L K u.1 ∧ EV L K u.2.2.1 ∧ FI [(10, 2), (10, 6)] K I u.1 ∧ (True)) (fun u t => Ex G A (WC cy L K R u.1 u.2.1 u.2.2.1 u.2.2.2) t) A) ([.ref this, .ref town, .int n] : List Value).toArray s 0 0 A) (F0 m 98 ls []) := by
                intro N_17
                induction N_17 with
                | zero => intro x4_17 I17 J17 E17 B17 H locs ls hI hE hC_17 qf17_0 hm9 hP hD hS hl; exact absurd hm9 (Nat.not_lt_zero _)
                | succ N_17 ih_17 =>
                  intro x4_17 I17 J17 E17 B17 H locs ls hI hE hC_17 qf17_0 hm9 hP hD hS hl
                  replace hC_0 := FI.tr hC_0 hC_17 (by decide)
                  replace hX_8 := FI.tr hX_8 hC_17 (by decide)
                  have hX_17 := hC_17
                  refine lv_iload hx hb dX3_lay_98 (lv_at hl 0 rfl) ?_
                  refine lv_aload_n hx hb dX3_lay_100 rfl (lv_at hl 2 rfl) ?_
                  refine cg_10_2_3 hx hb ht hown hK hN hP hthis.1 hthis.2 dX3_lay_101 ?_
                  have q_18 : 0 ≤ (I17 this 2).toInt ∧ (I17 this 2).toInt ≤ 6 := IV.rd hI hthis.1 hthis.2 2
                  refine lv_icmp_ge (tgt := 148) hx hb dX3_lay_104 (by decide) (fun c_19 => ?_) (fun c_19 => ?_)
                  · have q_20 : (I17 this 2).toInt ≤ x4_17.toInt := (ow_le _ _).mp c_19
                    obtain ⟨v_21, ev_21⟩ : ∃ y : Int32, y = x3_8 + 1 := ⟨_, rfl⟩
                    refine lv_iinc (v := v_21) (lv' := [(3, .int v_21), (4, .int x4_17), (0, .ref this), (1, .ref town), (2, .int n)]) hx hb dX3_lay_148 hl (k := 1) rfl (by rw [ev_21]; rfl) (by decide) rfl (fun ls hl => ?_)
                    have q_22 : v_21.toInt = x3_8.toInt + 1 := by have := ow_add ev_21 (by omega) (by omega); omega
                    refine lv_goto (tgt := 87) hx hb dX3_lay_151 (by decide) ?_
                    refine W.widen (k := 0) (n := 0) (Nat.le_of_ble_eq_true rfl) (Nat.le_of_ble_eq_true rfl) ?_
                    exact ih_8 v_21 I17 J17 E17 B17 _ _ _ hI hE hX_8 (by omega) (by omega) hP hD hS (lv_sub hl [0, 2, 3, 4] rfl)
                  · have q_23 : x4_17.toInt < (I17 this 2).toInt := by have := (not_congr (ow_le _ _)).mp c_19; omega
                    refine lv_aload_n hx hb dX3_lay_107 rfl (lv_at hl 2 rfl) ?_
                    refine cg_10_3_3 hx hb ht hown hK hN hP hthis.1 hthis.2 dX3_lay_108 ?_
                    have hm_24 : (R this 3) ∈ L ∧ K (R this 3) = 42 := RT.o hRT hthis.1 hthis.2 3 (by decide)
                    refine lv_iload_n hx hb dX3_lay_111 rfl (lv_at hl 1 rfl) ?_
                    have q_25 : vp_in x3_8 6 := vp_in_iff.mpr ⟨by omega, by omega⟩
                    refine cl_42 hx hb hX.2.2 hP hm_24.1 hm_24.2 q_25 dX3_lay_112 ?_
                    have hm_26 : (R (R this 3) (Int32.toNatClampNeg x3_8)) ∈ L ∧ K (R (R this 3) (Int32.toNatClampNeg x3_8)) = 43 := RT.a hRT hm_24.1 hm_24.2 (by decide) q_25
                    refine lv_iload hx hb dX3_lay_113 (lv_at hl 0 rfl) ?_
                    refine lv_aload_n hx hb dX3_lay_115 rfl (lv_at hl 3 rfl) ?_
                    refine cg_1_0_3 hx hb ht hown hK hN hP h_town.1 h_town.2 dX3_lay_116 ?_
                    have hm_27 : (R town 0) ∈ L ∧ K (R town 0) = 29 := RT.o hRT h_town.1 h_town.2 0 (by decide)
                    refine lv_aload_n hx hb dX3_lay_119 rfl (lv_at hl 2 rfl) ?_
                    refine cg_10_0_3 hx hb ht hown hK hN hP hthis.1 hthis.2 dX3_lay_120 ?_
                    have hm_28 : (R this 0) ∈ L ∧ K (R this 0) = 40 := RT.o hRT hthis.1 hthis.2 0 (by decide)
                    refine lv_iload_n hx hb dX3_lay_123 rfl (lv_at hl 1 rfl) ?_
                    have q_29 : vp_in x3_8 6 := vp_in_iff.mpr ⟨by omega, by omega⟩
                    refine cl_40 hx hb hK hP hm_28.1 hm_28.2 q_29 dX3_lay_124 ?_
                    refine lv_topi (fun v_30 ev_30 => ?_)
                    have q_31 : 0 ≤ v_30.toInt ∧ v_30.toInt ≤ 13 := by rw [ev_30]; exact EV.rd hE hm_28.1 hm_28.2 q_29
                    have q_32 : vp_in v_30 14 := vp_in_iff.mpr ⟨by omega, by omega⟩
                    refine cl_29 hx hb hK hP hm_27.1 hm_27.2 q_32 dX3_lay_125 ?_
                    have hm_33 : (R (R town 0) (Int32.toNatClampNeg v_30)) ∈ L ∧ K (R (R town 0) (Int32.toNatClampNeg v_30)) = 2 := RT.a hRT hm_27.1 hm_27.2 (by decide) q_32
                    refine lv_aload_n hx hb dX3_lay_126 rfl (lv_at hl 3 rfl) ?_
                    refine cg_1_0_3 hx hb ht hown hK hN hP h_town.1 h_town.2 dX3_lay_127 ?_
                    refine lv_aload_n hx hb dX3_lay_130 rfl (lv_at hl 2 rfl) ?_
                    refine cg_10_0_3 hx hb ht hown hK hN hP hthis.1 hthis.2 dX3_lay_131 ?_
                    refine lv_iload hx hb dX3_lay_134 (lv_at hl 0 rfl) ?_
                    have q_34 : vp_in x4_17 6 := vp_in_iff.mpr ⟨by omega, by omega⟩
                    refine cl_40 hx hb hK hP hm_28.1 hm_28.2 q_34 dX3_lay_136 ?_
                    refine lv_topi (fun v_35 ev_35 => ?_)
                    have q_36 : 0 ≤ v_35.toInt ∧ v_35.toInt ≤ 13 := by rw [ev_35]; exact EV.rd hE hm_28.1 hm_28.2 q_34
                    have q_37 : vp_in v_35 14 := vp_in_iff.mpr ⟨by omega, by omega⟩
                    refine cl_29 hx hb hK hP hm_27.1 hm_27.2 q_37 dX3_lay_137 ?_
                    have hm_38 : (R (R town 0) (Int32.toNatClampNeg v_35)) ∈ L ∧ K (R (R town 0) (Int32.toNatClampNeg v_35)) = 2 := RT.a hRT hm_27.1 hm_27.2 (by decide) q_37
                    have hFc := fr_new hS hA
                    refine va_calli (va_runS (As := [.ref (R (R town 0) (Int32.toNatClampNeg v_30)), .ref (R (R town 0) (Int32.toNatClampNeg v_35))]) (rest := [.int x4_17, .ref (R (R this 3) (Int32.toNatClampNeg x3_8))]) ⟨hx, hb, hml, hown, ht⟩ (l_over l G cy _ L K R T I17 E17 J17 B17 (R (R town 0) (Int32.toNatClampNeg v_30)) (R (R town 0) (Int32.toNatClampNeg v_35)) hRT hI hE hm_33.1 hm_33.2 hm_38.1 hm_38.2) (va_cwS 2 ht (gs k_749 k_750 k_747 k_748) rfl rfl rfl (by decide +kernel) ⟨Nat.le_of_ble_eq_true rfl, Nat.le_of_ble_eq_true rfl⟩) ⟨En.blind, fun U hU hW => ⟨rfl, En.of hU hW hP hK hD hN⟩⟩ rfl rfl hl.1 rfl (lv_room (Nat.le_of_ble_eq_true rfl)) dX3_lay_138 ⟨Nat.le_of_ble_eq_true rfl, Nat.le_of_ble_eq_true rfl⟩) hS (fun q _ h => hFc q h) hFc (fun r_u_39 u_39 t9 H locs ht9 hvm hw hB hz1 hk1 hS => ?_)
                    have hP := fr_keep hP hk1
                    have wu_39 := hw
                    clear hFc hk1 hz1 hB hw
                    have q_40 : vp_in x4_17 6 := vp_in_iff.mpr ⟨by omega, by omega⟩
                    refine cs_43 hx hb hK hP hD hS hm_26.1 hm_26.2 q_40 dX3_lay_141 (fun H locs hP hD hS => ?_)
                    replace hE := EV.up hE hm_26.2 (i := (Int32.toNatClampNeg x4_17)) (ow_any r_u_39)
                    generalize (va_up E17 (R (R this 3) (Int32.toNatClampNeg x3_8)) (upd (E17 (R (R this 3) (Int32.toNatClampNeg x3_8))) (Int32.toNatClampNeg x4_17) r_u_39)) = E_41 at hP hD hE
                    obtain ⟨v_42, ev_42⟩ : ∃ y : Int32, y = x4_17 + 1 := ⟨_, rfl⟩
                    refine lv_iinc (v := v_42) (lv' := [(4, .int v_42), (3, .int x3_8), (0, .ref this), (1, .ref town), (2, .int n)]) hx hb dX3_lay_142 hl (k := 0) rfl (by rw [ev_42]; rfl) (by decide) rfl (fun ls hl => ?_)
                    have q_43 : v_42.toInt = x4_17.toInt + 1 := by have := ow_add ev_42 (by omega) (by omega); omega
                    refine lv_goto (tgt := 98) hx hb dX3_lay_145 (by decide) ?_
                    refine W.widen (k := 0) (n := 0) (Nat.le_of_ble_eq_true rfl) (Nat.le_of_ble_eq_true rfl) ?_
                    exact ih_17 v_42 I17 J17 E_41 B17 _ _ _ hI hE hX_17 (by omega) (by omega) hP hD hS (lv_sub hl [0, 1, 2, 3, 4] rfl)
              exact lp_17 _ (0) I8 J8 E8 B8 _ _ _ hI hE FI.rf (by omega) (Nat.lt_succ_self _) hP hD hS (lv_sub hl [0, 1, 2, 3, 4] rfl)
        exact lp_8 _ (0) I4 J4 E4 B4 _ _ _ hI hE FI.rf (by omega) (Nat.lt_succ_self _) hP hD hS (lv_sub hl [0, 1, 2, 3] rfl)
      · have q_44 : x3_4.toInt < (I town 3).toInt := by have := (not_congr (ow_le _ _)).mp c_6; omega
        refine lv_aload_n hx hb dX3_lay_15 rfl (lv_at hl 1 rfl) ?_
        refine cg_10_2_3 hx hb ht hown hK hN hP hthis.1 hthis.2 dX3_lay_16 ?_
        have q_45 : 0 ≤ (I4 this 2).toInt ∧ (I4 this 2).toInt ≤ 6 := IV.rd hI hthis.1 hthis.2 2
        refine lv_bipush (v := 6) hx hb dX3_lay_19 (by decide) ?_
        refine lv_icmp_ge (tgt := 85) hx hb dX3_lay_21 (by decide) (fun c_46 => ?_) (fun c_46 => ?_)
        · have q_47 : (6 : Int32).toInt ≤ (I4 this 2).toInt := (ow_le _ _).mp c_46
          refine lv_iconst (v := 0) hx hb dX3_lay_85 (by decide) ?_
          refine lv_istore_n (lv' := [(3, .int 0), (0, .ref this), (1, .ref town), (2, .int n)]) hx hb dX3_lay_86 rfl hl (by decide) rfl (fun ls hl => ?_)
          refine W.widen (k := 0) (n := 0) (Nat.le_of_ble_eq_true rfl) (Nat.le_of_ble_eq_true rfl) ?_
          have lp_48 : ∀ (N_48 : Nat) (x3_48 : Int32) (I48 : Nat → Nat → Int32) (J48 : Nat → Nat → Int64) (E48 : Nat → Nat → Int32) (B48 : Nat → Nat → Int64) (H : Heap) (locs : List Loc) (ls : Array Slot), IV T L K I48 → EV L K E48 → FI [(10, 2), (10, 6)] K I4 I48 → (0 ≤ x3_48.toInt ∧ x3_48.toInt ≤ 6) → (6 - x3_48.toInt).toNat < N_48 → va_P G vwCl (WC cy L K R I48 J48 E48 B48) H → va_D A (WC cy L K R I48 J48 E48 B48) → va_S A s.heap H locs → lv_has ls 5 [(3, .int x3_48), (0, .ref this), (1, .ref town), (2, .int n)] → W p l e (headSpec (.code yX3_lay cX3_lay 5 none :: TBg) ({ frames := 9, cells := 0, slots := 0, locals := 576 })).room s m ([.ref this, .ref town, .int n] : List Value).toArray below meth c H locs 0 0 (MQ below (va_Qv (fun (u : (Nat → Nat → Int32) × (Nat → Nat → Int64) × (Nat → Nat → Int32) × (Nat → Nat → Int64)) => IV T L K u.1 ∧ EV L K u.2.2.1 ∧ FI [(10, 2), (10, 6)] K I u.1 ∧ (True)) (fun u t => Ex G A (WC cy L K R u.1 u.2.1 u.2.2.1 u.2.2.2) t) A) ([.ref this, .ref town, .int n] : List Value).toArray s 0 0 A) (F0 m 87 ls []) := by
            intro N_48
            induction N_48 with
            | zero => intro x3_48 I48 J48 E48 B48 H locs ls hI hE hC_48 qf48_0 hm9 hP hD hS hl; exact absurd hm9 (Nat.not_lt_zero _)
            | succ N_48 ih_48 =>
              intro x3_48 I48 J48 E48 B48 H locs ls hI hE hC_48 qf48_0 hm9 hP hD hS hl
              replace hC_0 := FI.tr hC_0 hC_48 (by decide)
              have hX_48 := hC_48
              refine lv_iload_n hx hb dX3_lay_87 rfl (lv_at hl 0 rfl) ?_
              refine lv_aload_n hx hb dX3_lay_88 rfl (lv_at hl 1 rfl) ?_
              refine cg_10_2_3 hx hb ht hown hK hN hP hthis.1 hthis.2 dX3_lay_89 ?_
              have q_49 : 0 ≤ (I48 this 2).toInt ∧ (I48 this 2).toInt ≤ 6 := IV.rd hI hthis.1 hthis.2 2
              refine lv_icmp_ge (tgt := 154) hx hb dX3_lay_92 (by decide) (fun c_50 => ?_) (fun c_50 => ?_)
              · have q_51 : (I48 this 2).toInt ≤ x3_48.toInt := (ow_le _ _).mp c_50
                refine lv_aload_n hx hb dX3_lay_154 rfl (lv_at hl 1 rfl) ?_
                refine lv_bipush (v := 73) hx hb dX3_lay_155 (by decide) ?_
                refine cp_10_6_3 hx hb ht hown hK hN hP hD hS hthis.1 hthis.2 dX3_lay_157 (fun H locs hP hD hS => ?_)
                replace hI := IV.up hI hthis.2 6 (ow_any (73 : Int32))
                have f_52 : FI [(10, 6)] K I48 (va_up I48 this (va_up (I48 this) 6 73)) := FI.up hthis.2 6 (73 : Int32)
                have e_53 : (va_up I48 this (va_up (I48 this) 6 73)) this 6 = 73 := FI.at I48 this 6 (73 : Int32)
                replace hC_0 := FI.tr hC_0 f_52 (by decide)
                replace hX_48 := FI.tr hX_48 f_52 (by decide)
                generalize (va_up I48 this (va_up (I48 this) 6 73)) = I_54 at hP hD hI f_52 e_53 hC_0 hX_48
                refine lv_aload_n hx hb dX3_lay_160 rfl (lv_at hl 1 rfl) ?_
                refine lv_iconst (v := 0) hx hb dX3_lay_161 (by decide) ?_
                refine lv_iconst (v := 0) hx hb dX3_lay_162 (by decide) ?_
                refine lv_iconst (v := 0) hx hb dX3_lay_163 (by decide) ?_
                have hFc := fr_free hD hS hA
                refine va_callv (va_runS (As := [.ref this, .int 0, .int 0, .int 0]) (rest := []) ⟨hx, hb, hml, hown, ht⟩ (l_next0 l G cy _ tq qq wq fo L K R T I_54 E48 J48 B48 this (0) (0) (0) hRT hI hE hthis.1 hthis.2 (by omega)) (va_cwS 4 ht (gs k_745 k_746 k_747 k_744) rfl rfl rfl (by decide +kernel) ⟨Nat.le_of_ble_eq_true rfl, Nat.le_of_ble_eq_true rfl⟩) ⟨EnX.blind, fun U hU hW => ⟨rfl, En.of hU hW hP hK hD hN, XK.of hX hS hFc hU hW⟩⟩ rfl rfl hl.1 rfl (lv_room (Nat.le_of_ble_eq_true rfl)) dX3_lay_164 ⟨Nat.le_of_ble_eq_true rfl, Nat.le_of_ble_eq_true rfl⟩) hS (fun q _ h => hFc q h) hFc (fun u_55 t9 H locs ht9 hvm hw hB hz1 hk1 hS => ?_)
                obtain ⟨I55, J55, E55, B55⟩ := u_55
                obtain ⟨hP1, hD1⟩ := hB
                rw [ht9] at hP1
                clear hI hE
                obtain ⟨hI, hE, xu_55I, wu_55⟩ := hw
                dsimp only at hI hE xu_55I wu_55
                have hP : va_P G vwCl (WC cy L K R I55 J55 E55 B55) H := hP1
                have hD : va_D A (WC cy L K R I55 J55 E55 B55) := hD1.weaken (fun _ _ _ h => hFc _ h)
                clear hFc hk1 hz1 hP1 hD1
                replace hC_0 := FI.tr hC_0 xu_55I (by decide)
                replace hX_48 := FI.tr hX_48 xu_55I (by decide)
                refine W.widen (k := 0) (n := 0) (Nat.le_of_ble_eq_true rfl) (Nat.le_of_ble_eq_true rfl) ?_
                exact W.vret hx hb hr (fun t ht9 hW => ⟨⟨(I55, J55, E55, B55), rfl, ⟨hI, hE, hC_0, trivial⟩, ⟨by rw [ht9]; exact hP, hD⟩⟩, hS.F ht9⟩) hS.2.2 dX3_lay_167
              · have q_56 : x3_48.toInt < (I48 this 2).toInt := by have := (not_congr (ow_le _ _)).mp c_50; omega
                refine lv_iconst (v := 0) hx hb dX3_lay_95 (by decide) ?_
                refine lv_istore (lv' := [(4, .int 0), (3, .int x3_48), (0, .ref this), (1, .ref town), (2, .int n)]) hx hb dX3_lay_96 hl (by decide) rfl (fun ls hl => ?_)
                refine W.widen (k := 0) (n := 0) (Nat.le_of_ble_eq_true rfl) (Nat.le_of_ble_eq_true rfl) ?_
                have lp_57 : ∀ (N_57 : Nat) (x4_57 : Int32) (I57 : Nat → Nat → Int32) (J57 : Nat → Nat → Int64) (E57 : Nat → Nat → Int32) (B57 : Nat → Nat → Int64) (H : Heap) (locs : List Loc) (ls : Array Slot), IV T L K I57 → EV L K E57 → FI [(10, 2), (10, 6)] K I48 I57 → (0 ≤ x4_57.toInt ∧ x4_57.toInt ≤ 6) → (6 - x4_57.toInt).toNat < N_57 → va_P G vwCl (WC cy L K R I57 J57 E57 B57) H → va_D A (WC cy L K R I57 J57 E57 B57) → va_S A s.heap H locs → lv_has ls 5 [(4, .int x4_57), (3, .int x3_48), (0, .ref this), (1, .ref town), (2, .int n)] → W p l e (headSpec (.code yX3_lay cX3_lay 5 none :: TBg) ({ frames := 9, cells := 0, slots := 0, locals := 576 })).room s m ([.ref this, .ref town, .int n] : List Value).toArray below meth c H locs 0 0 (MQ below (va_Qv (fun (u : (Nat → Nat → Int32) × (Nat → Nat → Int64) × (Nat → Nat → Int32) × (Nat → Nat → Int64)) => IV T L K u.1 ∧ EV L K u.2.2.1 ∧ FI [(10, 2), (10, 6)] K I u.1 ∧ (True)) (fun u t => Ex G A (WC cy L K R u.1 u.2.1 u.2.2.1 u.2.2.2) t) A) ([.ref this, .ref town, .int n] : List Value).toArray s 0 0 A) (F0 m 98 ls []) := by
                  intro N_57
                  induction N_57 with
                  | zero => intro x4_57 I57 J57 E57 B57 H locs ls hI hE hC_57 qf57_0 hm9 hP hD hS hl; exact absurd hm9 (Nat.not_lt_zero _)
                  | succ N_57 ih_57 =>
                    intro x4_57 I57 J57 E57 B57 H locs ls hI hE hC_57 qf57_0 hm9 hP hD hS hl
                    replace hC_0 := FI.tr hC_0 hC_57 (by decide)
                    replace hX_48 := FI.tr hX_48 hC_57 (by decide)
                    have hX_57 := hC_57
                    refine lv_iload hx hb dX3_lay_98 (lv_at hl 0 rfl) ?_
                    refine lv_aload_n hx hb dX3_lay_100 rfl (lv_at hl 2 rfl) ?_
                    refine cg_10_2_3 hx hb ht hown hK hN hP hthis.1 hthis.2 dX3_lay_101 ?_
                    have q_58 : 0 ≤ (I57 this 2).toInt ∧ (I57 this 2).toInt ≤ 6 := IV.rd hI hthis.1 hthis.2 2
                    refine lv_icmp_ge (tgt := 148) hx hb dX3_lay_104 (by decide) (fun c_59 => ?_) (fun c_59 => ?_)
                    · have q_60 : (I57 this 2).toInt ≤ x4_57.toInt := (ow_le _ _).mp c_59
                      obtain ⟨v_61, ev_61⟩ : ∃ y : Int32, y = x3_48 + 1 := ⟨_, rfl⟩
                      refine lv_iinc (v := v_61) (lv' := [(3, .int v_61), (4, .int x4_57), (0, .ref this), (1, .ref town), (2, .int n)]) hx hb dX3_lay_148 hl (k := 1) rfl (by rw [ev_61]; rfl) (by decide) rfl (fun ls hl => ?_)
                      have q_62 : v_61.toInt = x3_48.toInt + 1 := by have := ow_add ev_61 (by omega) (by omega); omega
                      refine lv_goto (tgt := 87) hx hb dX3_lay_151 (by decide) ?_
                      refine W.widen (k := 0) (n := 0) (Nat.le_of_ble_eq_true rfl) (Nat.le_of_ble_eq_true rfl) ?_
                      exact ih_48 v_61 I57 J57 E57 B57 _ _ _ hI hE hX_48 (by omega) (by omega) hP hD hS (lv_sub hl [0, 2, 3, 4] rfl)
                    · have q_63 : x4_57.toInt < (I57 this 2).toInt := by have := (not_congr (ow_le _ _)).mp c_59; omega
                      refine lv_aload_n hx hb dX3_lay_107 rfl (lv_at hl 2 rfl) ?_
                      refine cg_10_3_3 hx hb ht hown hK hN hP hthis.1 hthis.2 dX3_lay_108 ?_
                      have hm_64 : (R this 3) ∈ L ∧ K (R this 3) = 42 := RT.o hRT hthis.1 hthis.2 3 (by decide)
                      refine lv_iload_n hx hb dX3_lay_111 rfl (lv_at hl 1 rfl) ?_
                      have q_65 : vp_in x3_48 6 := vp_in_iff.mpr ⟨by omega, by omega⟩
                      refine cl_42 hx hb hX.2.2 hP hm_64.1 hm_64.2 q_65 dX3_lay_112 ?_
                      have hm_66 : (R (R this 3) (Int32.toNatClampNeg x3_48)) ∈ L ∧ K (R (R this 3) (Int32.toNatClampNeg x3_48)) = 43 := RT.a hRT hm_64.1 hm_64.2 (by decide) q_65
                      refine lv_iload hx hb dX3_lay_113 (lv_at hl 0 rfl) ?_
                      refine lv_aload_n hx hb dX3_lay_115 rfl (lv_at hl 3 rfl) ?_
                      refine cg_1_0_3 hx hb ht hown hK hN hP h_town.1 h_town.2 dX3_lay_116 ?_
                      have hm_67 : (R town 0) ∈ L ∧ K (R town 0) = 29 := RT.o hRT h_town.1 h_town.2 0 (by decide)
                      refine lv_aload_n hx hb dX3_lay_119 rfl (lv_at hl 2 rfl) ?_
                      refine cg_10_0_3 hx hb ht hown hK hN hP hthis.1 hthis.2 dX3_lay_120 ?_
                      have hm_68 : (R this 0) ∈ L ∧ K (R this 0) = 40 := RT.o hRT hthis.1 hthis.2 0 (by decide)
                      refine lv_iload_n hx hb dX3_lay_123 rfl (lv_at hl 1 rfl) ?_
                      have q_69 : vp_in x3_48 6 := vp_in_iff.mpr ⟨by omega, by omega⟩
                      refine cl_40 hx hb hK hP hm_68.1 hm_68.2 q_69 dX3_lay_124 ?_
                      refine lv_topi (fun v_70 ev_70 => ?_)
                      have q_71 : 0 ≤ v_70.toInt ∧ v_70.toInt ≤ 13 := by rw [ev_70]; exact EV.rd hE hm_68.1 hm_68.2 q_69
                      have q_72 : vp_in v_70 14 := vp_in_iff.mpr ⟨by omega, by omega⟩
                      refine cl_29 hx hb hK hP hm_67.1 hm_67.2 q_72 dX3_lay_125 ?_
                      have hm_73 : (R (R town 0) (Int32.toNatClampNeg v_70)) ∈ L ∧ K (R (R town 0) (Int32.toNatClampNeg v_70)) = 2 := RT.a hRT hm_67.1 hm_67.2 (by decide) q_72
                      refine lv_aload_n hx hb dX3_lay_126 rfl (lv_at hl 3 rfl) ?_
                      refine cg_1_0_3 hx hb ht hown hK hN hP h_town.1 h_town.2 dX3_lay_127 ?_
                      refine lv_aload_n hx hb dX3_lay_130 rfl (lv_at hl 2 rfl) ?_
                      refine cg_10_0_3 hx hb ht hown hK hN hP hthis.1 hthis.2 dX3_lay_131 ?_
                      refine lv_iload hx hb dX3_lay_134 (lv_at hl 0 rfl) ?_
                      have q_74 : vp_in x4_57 6 := vp_in_iff.mpr ⟨by omega, by omega⟩
                      refine cl_40 hx hb hK hP hm_68.1 hm_68.2 q_74 dX3_lay_136 ?_
                      refine lv_topi (fun v_75 ev_75 => ?_)
                      have q_76 : 0 ≤ v_75.toInt ∧ v_75.toInt ≤ 13 := by rw [ev_75]; exact EV.rd hE hm_68.1 hm_68.2 q_74
                      have q_77 : vp_in v_75 14 := vp_in_iff.mpr ⟨by omega, by omega⟩
                      refine cl_29 hx hb hK hP hm_67.1 hm_67.2 q_77 dX3_lay_137 ?_
                      have hm_78 : (R (R town 0) (Int32.toNatClampNeg v_75)) ∈ L ∧ K (R (R town 0) (Int32.toNatClampNeg v_75)) = 2 := RT.a hRT hm_67.1 hm_67.2 (by decide) q_77
                      have hFc := fr_new hS hA
                      refine va_calli (va_runS (As := [.ref (R (R town 0) (Int32.toNatClampNeg v_70)), .ref (R (R town 0) (Int32.toNatClampNeg v_75))]) (rest := [.int x4_57, .ref (R (R this 3) (Int32.toNatClampNeg x3_48))]) ⟨hx, hb, hml, hown, ht⟩ (l_over l G cy _ L K R T I57 E57 J57 B57 (R (R town 0) (Int32.toNatClampNeg v_70)) (R (R town 0) (Int32.toNatClampNeg v_75)) hRT hI hE hm_73.1 hm_73.2 hm_78.1 hm_78.2) (va_cwS 2 ht (gs k_749 k_750 k_747 k_748) rfl rfl rfl (by decide +kernel) ⟨Nat.le_of_ble_eq_true rfl, Nat.le_of_ble_eq_true rfl⟩) ⟨En.blind, fun U hU hW => ⟨rfl, En.of hU hW hP hK hD hN⟩⟩ rfl rfl hl.1 rfl (lv_room (Nat.le_of_ble_eq_true rfl)) dX3_lay_138 ⟨Nat.le_of_ble_eq_true rfl, Nat.le_of_ble_eq_true rfl⟩) hS (fun q _ h => hFc q h) hFc (fun r_u_79 u_79 t9 H locs ht9 hvm hw hB hz1 hk1 hS => ?_)
                      have hP := fr_keep hP hk1
                      have wu_79 := hw
                      clear hFc hk1 hz1 hB hw
                      have q_80 : vp_in x4_57 6 := vp_in_iff.mpr ⟨by omega, by omega⟩
                      refine cs_43 hx hb hK hP hD hS hm_66.1 hm_66.2 q_80 dX3_lay_141 (fun H locs hP hD hS => ?_)
                      replace hE := EV.up hE hm_66.2 (i := (Int32.toNatClampNeg x4_57)) (ow_any r_u_79)
                      generalize (va_up E57 (R (R this 3) (Int32.toNatClampNeg x3_48)) (upd (E57 (R (R this 3) (Int32.toNatClampNeg x3_48))) (Int32.toNatClampNeg x4_57) r_u_79)) = E_81 at hP hD hE
                      obtain ⟨v_82, ev_82⟩ : ∃ y : Int32, y = x4_57 + 1 := ⟨_, rfl⟩
                      refine lv_iinc (v := v_82) (lv' := [(4, .int v_82), (3, .int x3_48), (0, .ref this), (1, .ref town), (2, .int n)]) hx hb dX3_lay_142 hl (k := 0) rfl (by rw [ev_82]; rfl) (by decide) rfl (fun ls hl => ?_)
                      have q_83 : v_82.toInt = x4_57.toInt + 1 := by have := ow_add ev_82 (by omega) (by omega); omega
                      refine lv_goto (tgt := 98) hx hb dX3_lay_145 (by decide) ?_
                      refine W.widen (k := 0) (n := 0) (Nat.le_of_ble_eq_true rfl) (Nat.le_of_ble_eq_true rfl) ?_
                      exact ih_57 v_82 I57 J57 E_81 B57 _ _ _ hI hE hX_57 (by omega) (by omega) hP hD hS (lv_sub hl [0, 1, 2, 3, 4] rfl)
                exact lp_57 _ (0) I48 J48 E48 B48 _ _ _ hI hE FI.rf (by omega) (Nat.lt_succ_self _) hP hD hS (lv_sub hl [0, 1, 2, 3, 4] rfl)
          exact lp_48 _ (0) I4 J4 E4 B4 _ _ _ hI hE FI.rf (by omega) (Nat.lt_succ_self _) hP hD hS (lv_sub hl [0, 1, 2, 3] rfl)
        · have q_84 : (I4 this 2).toInt < (6 : Int32).toInt := by have := (not_congr (ow_le _ _)).mp c_46; omega
          refine lv_iload_n hx hb dX3_lay_24 rfl (lv_at hl 3 rfl) ?_
          refine lv_iload_n hx hb dX3_lay_25 rfl (lv_at hl 0 rfl) ?_
          refine lv_ishr hx hb dX3_lay_26 ?_
          refine lv_topi (fun v_85 ev_85 => ?_)
          refine lv_iconst (v := 1) hx hb dX3_lay_27 (by decide) ?_
          refine lv_iand hx hb dX3_lay_28 ?_
          refine lv_topi (fun v_86 ev_86 => ?_)
          have q_87 : 0 ≤ v_86.toInt ∧ v_86.toInt ≤ 1 := by rw [ev_86]; exact ow_and1 _
          refine lv_if_eq (tgt := 79) hx hb dX3_lay_29 (by decide) (fun c_88 => ?_) (fun c_88 => ?_)
          · have q_89 : v_86.toInt = (0 : Int32).toInt := (ow_eq _ _).mp c_88
            obtain ⟨v_90, ev_90⟩ : ∃ y : Int32, y = x3_4 + 1 := ⟨_, rfl⟩
            refine lv_iinc (v := v_90) (lv' := [(3, .int v_90), (0, .ref this), (1, .ref town), (2, .int n)]) hx hb dX3_lay_79 hl (k := 0) rfl (by rw [ev_90]; rfl) (by decide) rfl (fun ls hl => ?_)
            have q_91 : v_90.toInt = x3_4.toInt + 1 := by have := ow_add ev_90 (by omega) (by omega); omega
            refine lv_goto (tgt := 7) hx hb dX3_lay_82 (by decide) ?_
            refine W.widen (k := 0) (n := 0) (Nat.le_of_ble_eq_true rfl) (Nat.le_of_ble_eq_true rfl) ?_
            exact ih_4 v_90 I4 J4 E4 B4 _ _ _ hI hE hX_4 (by omega) (by omega) hP hD hS (lv_sub hl [0, 1, 2, 3] rfl)
          · have q_92 : ¬ v_86.toInt = (0 : Int32).toInt := by have := (not_congr (ow_eq _ _)).mp c_88; omega
            refine lv_aload_n hx hb dX3_lay_32 rfl (lv_at hl 2 rfl) ?_
            refine lv_iload_n hx hb dX3_lay_33 rfl (lv_at hl 3 rfl) ?_
            refine lv_iload_n hx hb dX3_lay_34 rfl (lv_at hl 0 rfl) ?_
            have hFc := fr_new hS hA
            refine va_calli (va_runS (As := [.ref town, .int n, .int x3_4]) (rest := []) ⟨hx, hb, hml, hown, ht⟩ (l_left l G cy _ L K R T I4 E4 J4 B4 town n x3_4 hRT hI hE h_town.1 h_town.2 (by omega)) (va_cwS 3 ht (gs k_752 k_753 k_747 k_751) rfl rfl rfl (by decide +kernel) ⟨Nat.le_of_ble_eq_true rfl, Nat.le_of_ble_eq_true rfl⟩) ⟨En.blind, fun U hU hW => ⟨rfl, En.of hU hW hP hK hD hN⟩⟩ rfl rfl hl.1 rfl (lv_room (Nat.le_of_ble_eq_true rfl)) dX3_lay_35 ⟨Nat.le_of_ble_eq_true rfl, Nat.le_of_ble_eq_true rfl⟩) hS (fun q _ h => hFc q h) hFc (fun r_u_93 u_93 t9 H locs ht9 hvm hw hB hz1 hk1 hS => ?_)
            have hP := fr_keep hP hk1
            have wu_93 := hw
            clear hFc hk1 hz1 hB hw
            refine lv_if_ne (tgt := 79) hx hb dX3_lay_38 (by decide) (fun c_94 => ?_) (fun c_94 => ?_)
            · have q_95 : ¬ r_u_93.toInt = (0 : Int32).toInt := by have := (not_congr (ow_eq _ _)).mp c_94; omega
              obtain ⟨v_96, ev_96⟩ : ∃ y : Int32, y = x3_4 + 1 := ⟨_, rfl⟩
              refine lv_iinc (v := v_96) (lv' := [(3, .int v_96), (0, .ref this), (1, .ref town), (2, .int n)]) hx hb dX3_lay_79 hl (k := 0) rfl (by rw [ev_96]; rfl) (by decide) rfl (fun ls hl => ?_)
              have q_97 : v_96.toInt = x3_4.toInt + 1 := by have := ow_add ev_96 (by omega) (by omega); omega
              refine lv_goto (tgt := 7) hx hb dX3_lay_82 (by decide) ?_
              refine W.widen (k := 0) (n := 0) (Nat.le_of_ble_eq_true rfl) (Nat.le_of_ble_eq_true rfl) ?_
              exact ih_4 v_96 I4 J4 E4 B4 _ _ _ hI hE hX_4 (by omega) (by omega) hP hD hS (lv_sub hl [0, 1, 2, 3] rfl)
            · have q_98 : r_u_93.toInt = (0 : Int32).toInt := (ow_eq _ _).mp c_94
              refine lv_aload_n hx hb dX3_lay_41 rfl (lv_at hl 1 rfl) ?_
              refine cg_10_0_3 hx hb ht hown hK hN hP hthis.1 hthis.2 dX3_lay_42 ?_
              have hm_99 : (R this 0) ∈ L ∧ K (R this 0) = 40 := RT.o hRT hthis.1 hthis.2 0 (by decide)
              refine lv_aload_n hx hb dX3_lay_45 rfl (lv_at hl 1 rfl) ?_
              refine cg_10_2_3 hx hb ht hown hK hN hP hthis.1 hthis.2 dX3_lay_46 ?_
              refine lv_iload_n hx hb dX3_lay_49 rfl (lv_at hl 0 rfl) ?_
              have q_100 : vp_in (I4 this 2) 6 := vp_in_iff.mpr ⟨by omega, by omega⟩
              refine cs_40 hx hb hK hP hD hS hm_99.1 hm_99.2 q_100 dX3_lay_50 (fun H locs hP hD hS => ?_)
              replace hE := EV.up hE hm_99.2 (i := (Int32.toNatClampNeg (I4 this 2))) (show 0 ≤ x3_4.toInt ∧ x3_4.toInt ≤ 13 from by omega)
              generalize (va_up E4 (R this 0) (upd (E4 (R this 0)) (Int32.toNatClampNeg (I4 this 2)) x3_4)) = E_101 at hP hD hE
              refine lv_aload_n hx hb dX3_lay_51 rfl (lv_at hl 1 rfl) ?_
              refine cg_10_1_3 hx hb ht hown hK hN hP hthis.1 hthis.2 dX3_lay_52 ?_
              have hm_102 : (R this 1) ∈ L ∧ K (R this 1) = 41 := RT.o hRT hthis.1 hthis.2 1 (by decide)
              refine lv_aload_n hx hb dX3_lay_55 rfl (lv_at hl 1 rfl) ?_
              refine cg_10_2_3 hx hb ht hown hK hN hP hthis.1 hthis.2 dX3_lay_56 ?_
              refine lv_aload_n hx hb dX3_lay_59 rfl (lv_at hl 2 rfl) ?_
              refine cg_1_0_3 hx hb ht hown hK hN hP h_town.1 h_town.2 dX3_lay_60 ?_
              have hm_103 : (R town 0) ∈ L ∧ K (R town 0) = 29 := RT.o hRT h_town.1 h_town.2 0 (by decide)
              refine lv_iload_n hx hb dX3_lay_63 rfl (lv_at hl 0 rfl) ?_
              have q_104 : vp_in x3_4 14 := vp_in_iff.mpr ⟨by omega, by omega⟩
              refine cl_29 hx hb hK hP hm_103.1 hm_103.2 q_104 dX3_lay_64 ?_
              have hm_105 : (R (R town 0) (Int32.toNatClampNeg x3_4)) ∈ L ∧ K (R (R town 0) (Int32.toNatClampNeg x3_4)) = 2 := RT.a hRT hm_103.1 hm_103.2 (by decide) q_104
              refine cg_2_2_3 hx hb ht hown hK hN hP hm_105.1 hm_105.2 dX3_lay_65 ?_
              have q_106 : 0 ≤ (I4 (R (R town 0) (Int32.toNatClampNeg x3_4)) 2).toInt ∧ (I4 (R (R town 0) (Int32.toNatClampNeg x3_4)) 2).toInt ≤ 12 := IV.rd hI hm_105.1 hm_105.2 2
              have q_107 : vp_in (I4 this 2) 6 := vp_in_iff.mpr ⟨by omega, by omega⟩
              refine cs_41 hx hb hK hP hD hS hm_102.1 hm_102.2 q_107 dX3_lay_68 (fun H locs hP hD hS => ?_)
              replace hE := EV.up hE hm_102.2 (i := (Int32.toNatClampNeg (I4 this 2))) (ow_any (I4 (R (R town 0) (Int32.toNatClampNeg x3_4)) 2))
              generalize (va_up E_101 (R this 1) (upd (E_101 (R this 1)) (Int32.toNatClampNeg (I4 this 2)) (I4 (R (R town 0) (Int32.toNatClampNeg x3_4)) 2))) = E_108 at hP hD hE
              refine lv_aload_n hx hb dX3_lay_69 rfl (lv_at hl 1 rfl) ?_
              refine lv_dup hx hb dX3_lay_70 rfl ?_
              refine cg_10_2_3 hx hb ht hown hK hN hP hthis.1 hthis.2 dX3_lay_71 ?_
              refine lv_iconst (v := 1) hx hb dX3_lay_74 (by decide) ?_
              refine lv_iadd hx hb dX3_lay_75 ?_
              refine lv_topi (fun v_109 ev_109 => ?_)
              have q_110 : v_109.toInt = (I4 this 2).toInt + (1 : Int32).toInt := ow_add ev_109 (by omega) (by omega)
              refine cp_10_2_3 hx hb ht hown hK hN hP hD hS hthis.1 hthis.2 dX3_lay_76 (fun H locs hP hD hS => ?_)
              replace hI := IV.up hI hthis.2 2 (show 0 ≤ v_109.toInt ∧ v_109.toInt ≤ 6 from by omega)
              have f_111 : FI [(10, 2)] K I4 (va_up I4 this (va_up (I4 this) 2 v_109)) := FI.up hthis.2 2 v_109
              have e_112 : (va_up I4 this (va_up (I4 this) 2 v_109)) this 2 = v_109 := FI.at I4 this 2 v_109
              replace hC_0 := FI.tr hC_0 f_111 (by decide)
              replace hX_4 := FI.tr hX_4 f_111 (by decide)
              generalize (va_up I4 this (va_up (I4 this) 2 v_109)) = I_113 at hP hD hI f_111 e_112 hC_0 hX_4
              obtain ⟨v_114, ev_114⟩ : ∃ y : Int32, y = x3_4 + 1 := ⟨_, rfl⟩
              refine lv_iinc (v := v_114) (lv' := [(3, .int v_114), (0, .ref this), (1, .ref town), (2, .int n)]) hx hb dX3_lay_79 hl (k := 0) rfl (by rw [ev_114]; rfl) (by decide) rfl (fun ls hl => ?_)
              have q_115 : v_114.toInt = x3_4.toInt + 1 := by have := ow_add ev_114 (by omega) (by omega); omega
              refine lv_goto (tgt := 7) hx hb dX3_lay_82 (by decide) ?_
              refine W.widen (k := 0) (n := 0) (Nat.le_of_ble_eq_true rfl) (Nat.le_of_ble_eq_true rfl) ?_
              exact ih_4 v_114 I_113 J4 E_108 B4 _ _ _ hI hE hX_4 (by omega) (by omega) hP hD hS (lv_sub hl [0, 1, 2, 3] rfl)
  exact lp_4 _ (0) I_3 J E B _ _ _ hI hE FI.rf (by omega) (Nat.lt_succ_self _) hP hD hS (lv_sub hl [0, 1, 2, 3] rfl)
set_option maxHeartbeats 4000000 in
set_option maxRecDepth 100000 in
theorem x_master (l : Launch) (G : va_G) (cy : Nat → ClassId) (sz : Nat) (tq qq wq : Nat) (fo : Option Nat) (L : List Nat) (K : Nat → Nat) (R : Nat → Nat → Nat) (T : Int) (I E : Nat → Nat → Int32) (J B : Nat → Nat → Int64) (this : Nat) (n : Int32) (n2 : Int32) (hRT : RT L K R) (hI : IV T L K I) (hE : EV L K E) (hthis1 : this ∈ L) (hthis2 : K this = 0) : Met l yX11_master (.code yX11_master cX11_master 3 (some .int) :: TBg) ({ frames := 10, cells := 0, slots := 0, locals := 640 }) (va_Pc [.ref this, .int n, .int n2] (EnX G cy (WC cy L K R I J E B) sz tq qq wq fo (va_A (WC cy L K R I J E B) sz))) (va_Qi (fun (r : Int32) (u : (Nat → Nat → Int32) × (Nat → Nat → Int64) × (Nat → Nat → Int32) × (Nat → Nat → Int64)) => IV T L K u.1 ∧ EV L K u.2.2.1 ∧ FI [(10, 2), (10, 6)] K I u.1 ∧ (True)) (fun u t => Ex G (va_A (WC cy L K R I J E B) sz) (WC cy L K R u.1 u.2.1 u.2.2.1 u.2.2.2) t) (va_A (WC cy L K R I J E B) sz)) 0 0 (va_A (WC cy L K R I J E B) sz) := by
  have hthis : this ∈ L ∧ K this = 0 := ⟨hthis1, hthis2⟩
  refine Met.ofW (cc := cX11_master) (maxL := 3) (ret := (some .int)) (by decide) rfl ?_
  intro p e s m args below meth c s₁ B9 hml hv9
  obtain ⟨rfl, ⟨hsz, hP, hK, hD0, hN⟩, hX⟩ := hv9
  have hx := B9.exec
  have hb := B9.bytes
  have hr := B9.returns
  have hts := atoms_spec (ws := .code yX11_master cX11_master 3 (some .int) :: TBg) B9.pre
  have ht : ∀ w ∈ TBg, w.before _ s = true := fun w h => hts w (List.mem_cons_of_mem _ h)
  have hown : s.vm.findClass RX11 = some m.cls := findClass_of_methodNamed B9.named
  have hlocks := B9.notSynchronized
  subst hsz
  have hD := hD0.self (sz := s.heap.size)
  generalize hAe : va_A (WC cy L K R I J E B) s.heap.size = A at hD hX ⊢
  have hA : ∀ q : Nat, s.heap.size ≤ q → A q := fun q h => by rw [← hAe]; exact Or.inr h
  have hS : va_S A s.heap s.heap [] := va_S.rf
  have hl := lv_entry ([.ref this, .int n, .int n2]) (n := 3) (Nat.le_of_ble_eq_true rfl)
  rw [lg_entry_eq]
  generalize (lg_sl ([.ref this, .int n, .int n2]) ++ List.replicate (3 - (lg_sl ([.ref this, .int n, .int n2])).length) Slot.unset).toArray = ls at hl ⊢
  have hl : lv_has ls 3 [(0, .ref this), (1, .int n), (2, .int n2)] := hl
  have z0 : (-2 : Int32).toInt = -2 := by decide
  have z1 : (-1 : Int32).toInt = -1 := by decide
  have z2 : (0 : Int32).toInt = 0 := by decide
  have z3 : (1 : Int32).toInt = 1 := by decide
  have z4 : (6 : Int32).toInt = 6 := by decide
  have hC_0 : FI [(10, 2), (10, 6)] K I I := FI.rf
  refine lv_iload_n hx hb dX11_master_0 rfl (lv_at hl 1 rfl) ?_
  refine lv_if_lt (tgt := 27) hx hb dX11_master_1 (by decide) (fun c_1 => ?_) (fun c_1 => ?_)
  · have q_2 : n.toInt < (0 : Int32).toInt := (ow_lt _ _).mp c_1
    refine lv_iconst (v := (-1)) hx hb dX11_master_27 (by decide) ?_
    refine W.widen (k := 0) (n := 0) (Nat.le_of_ble_eq_true rfl) (Nat.le_of_ble_eq_true rfl) ?_
    exact W.iret (v := (-1)) hx hb hr (fun t ht9 hW => ⟨⟨(-1), (I, J, E, B), rfl, ⟨hI, hE, hC_0, trivial⟩, ⟨by rw [ht9]; exact hP, hD⟩⟩, hS.F ht9⟩) hS.2.2 dX11_master_28
  · have q_3 : (0 : Int32).toInt ≤ n.toInt := by have := (not_congr (ow_lt _ _)).mp c_1; omega
    refine lv_iload_n hx hb dX11_master_4 rfl (lv_at hl 1 rfl) ?_
    refine lv_iconst (v := 1) hx hb dX11_master_5 (by decide) ?_
    refine lv_aload_n hx hb dX11_master_6 rfl (lv_at hl 0 rfl) ?_
    refine cg_0_2_11 hx hb ht hown hK hN hP hthis.1 hthis.2 dX11_master_7 ?_
    have hm_4 : (R this 2) ∈ L ∧ K (R this 2) = 1 := RT.o hRT hthis.1 hthis.2 2 (by decide)
    refine cg_1_3_11 hx hb ht hown hK hN hP hm_4.1 hm_4.2 dX11_master_10 ?_
    have q_5 : 0 ≤ (I (R this 2) 3).toInt ∧ (I (R this 2) 3).toInt ≤ 14 := IV.rd hI hm_4.1 hm_4.2 3
    refine lv_ishl hx hb dX11_master_13 ?_
    refine lv_topi (fun v_6 ev_6 => ?_)
    refine lv_icmp_ge (tgt := 27) hx hb dX11_master_14 (by decide) (fun c_7 => ?_) (fun c_7 => ?_)
    · have q_8 : v_6.toInt ≤ n.toInt := (ow_le _ _).mp c_7
      refine lv_iconst (v := (-1)) hx hb dX11_master_27 (by decide) ?_
      refine W.widen (k := 0) (n := 0) (Nat.le_of_ble_eq_true rfl) (Nat.le_of_ble_eq_true rfl) ?_
      exact W.iret (v := (-1)) hx hb hr (fun t ht9 hW => ⟨⟨(-1), (I, J, E, B), rfl, ⟨hI, hE, hC_0, trivial⟩, ⟨by rw [ht9]; exact hP, hD⟩⟩, hS.F ht9⟩) hS.2.2 dX11_master_28
    · have q_9 : n.toInt < v_6.toInt := by have := (not_congr (ow_le _ _)).mp c_7; omega
      refine lv_iload_n hx hb dX11_master_17 rfl (lv_at hl 2 rfl) ?_
      refine lv_if_lt (tgt := 27) hx hb dX11_master_18 (by decide) (fun c_10 => ?_) (fun c_10 => ?_)
      · have q_11 : n2.toInt < (0 : Int32).toInt := (ow_lt _ _).mp c_10
        refine lv_iconst (v := (-1)) hx hb dX11_master_27 (by decide) ?_
        refine W.widen (k := 0) (n := 0) (Nat.le_of_ble_eq_true rfl) (Nat.le_of_ble_eq_true rfl) ?_
        exact W.iret (v := (-1)) hx hb hr (fun t ht9 hW => ⟨⟨(-1), (I, J, E, B), rfl, ⟨hI, hE, hC_0, trivial⟩, ⟨by rw [ht9]; exact hP, hD⟩⟩, hS.F ht9⟩) hS.2.2 dX11_master_28
      · have q_12 : (0 : Int32).toInt ≤ n2.toInt := by have := (not_congr (ow_lt _ _)).mp c_10; omega
        refine lv_iload_n hx hb dX11_master_21 rfl (lv_at hl 2 rfl) ?_
        refine lv_bipush (v := 6) hx hb dX11_master_22 (by decide) ?_
        refine lv_icmp_le (tgt := 29) hx hb dX11_master_24 (by decide) (fun c_13 => ?_) (fun c_13 => ?_)
        · have q_14 : n2.toInt ≤ (6 : Int32).toInt := (ow_le _ _).mp c_13
          refine lv_iload_n hx hb dX11_master_29 rfl (lv_at hl 1 rfl) ?_
          have hFc := fr_new hS hA
          refine va_calli (va_runS (As := [.int n]) (rest := []) ⟨hx, hb, hml, hown, ht⟩ (c_bitCount l G cy _  n  ) (va_cwS 1 ht (gs k_585 k_586 k_587 k_584) rfl rfl rfl (by decide +kernel) ⟨Nat.le_of_ble_eq_true rfl, Nat.le_of_ble_eq_true rfl⟩) ⟨En.blind, fun U hU hW => ⟨rfl, En.of hU hW (va_P0 (H := _)) hK va_D0 hN⟩⟩ rfl rfl hl.1 rfl (lv_room (Nat.le_of_ble_eq_true rfl)) dX11_master_30 ⟨Nat.le_of_ble_eq_true rfl, Nat.le_of_ble_eq_true rfl⟩) hS (fun q _ h => hFc q h) hFc (fun r_u_15 u_15 t9 H locs ht9 hvm hw hB hz1 hk1 hS => ?_)
          have hP := fr_keep hP hk1
          have wu_15 := hw
          clear hFc hk1 hz1 hB hw
          refine lv_bipush (v := 6) hx hb dX11_master_33 (by decide) ?_
          refine lv_icmp_le (tgt := 41) hx hb dX11_master_35 (by decide) (fun c_16 => ?_) (fun c_16 => ?_)
          · have q_17 : r_u_15.toInt ≤ (6 : Int32).toInt := (ow_le _ _).mp c_16
            refine lv_aload_n hx hb dX11_master_41 rfl (lv_at hl 0 rfl) ?_
            refine cg_0_12_11 hx hb ht hown hK hN hP hthis.1 hthis.2 dX11_master_42 ?_
            have hm_18 : (R this 12) ∈ L ∧ K (R this 12) = 10 := RT.o hRT hthis.1 hthis.2 12 (by decide)
            refine lv_aload_n hx hb dX11_master_45 rfl (lv_at hl 0 rfl) ?_
            refine cg_0_2_11 hx hb ht hown hK hN hP hthis.1 hthis.2 dX11_master_46 ?_
            refine lv_iload_n hx hb dX11_master_49 rfl (lv_at hl 1 rfl) ?_
            have hFc := fr_free hD hS hA
            refine va_callv (va_runV (As := [.ref (R this 2), .int n]) (rest := []) ⟨hx, hb, hml, hown, ht⟩ (l_lay l G cy _ tq qq wq fo L K R T I E J B (R this 12) (R this 2) n hRT hI hE hm_18.1 hm_18.2 hm_4.1 hm_4.2) (cwV 2 ht (gv k_755 k_756 k_757 k_747 k_754) rfl rfl rfl (by decide +kernel) ⟨Nat.le_of_ble_eq_true rfl, Nat.le_of_ble_eq_true rfl⟩) ⟨EnX.blind, cr_10 hK hP hm_18.1 hm_18.2, fun U hU hW => ⟨rfl, En.of hU hW hP hK hD hN, XK.of hX hS hFc hU hW⟩⟩ rfl rfl hl.1 rfl (lv_room (Nat.le_of_ble_eq_true rfl)) dX11_master_50 ⟨Nat.le_of_ble_eq_true rfl, Nat.le_of_ble_eq_true rfl⟩) hS (fun q _ h => hFc q h) hFc (fun u_19 t9 H locs ht9 hvm hw hB hz1 hk1 hS => ?_)
            obtain ⟨I19, J19, E19, B19⟩ := u_19
            obtain ⟨hP1, hD1⟩ := hB
            rw [ht9] at hP1
            clear hI hE
            obtain ⟨hI, hE, xu_19I, wu_19⟩ := hw
            dsimp only at hI hE xu_19I wu_19
            have hP : va_P G vwCl (WC cy L K R I19 J19 E19 B19) H := hP1
            have hD : va_D A (WC cy L K R I19 J19 E19 B19) := hD1.weaken (fun _ _ _ h => hFc _ h)
            clear hFc hk1 hz1 hP1 hD1
            replace hC_0 := FI.tr hC_0 xu_19I (by decide)
            refine lv_iload_n hx hb dX11_master_53 rfl (lv_at hl 2 rfl) ?_
            refine lv_if_ne (tgt := 67) hx hb dX11_master_54 (by decide) (fun c_20 => ?_) (fun c_20 => ?_)
            · have q_21 : ¬ n2.toInt = (0 : Int32).toInt := by have := (not_congr (ow_eq _ _)).mp c_20; omega
              refine lv_aload_n hx hb dX11_master_67 rfl (lv_at hl 0 rfl) ?_
              refine cg_0_12_11 hx hb ht hown hK hN hP hthis.1 hthis.2 dX11_master_68 ?_
              refine lv_iload_n hx hb dX11_master_71 rfl (lv_at hl 2 rfl) ?_
              refine lv_iconst (v := 1) hx hb dX11_master_72 (by decide) ?_
              refine lv_isub hx hb dX11_master_73 ?_
              refine lv_topi (fun v_22 ev_22 => ?_)
              have q_23 : v_22.toInt = n2.toInt - (1 : Int32).toInt := ow_sub ev_22 (by omega) (by omega)
              have hFc := fr_new hS hA
              refine va_calli (va_runV (As := [.int v_22]) (rest := []) ⟨hx, hb, hml, hown, ht⟩ (l_laidAt l G cy _ L K R T I19 E19 J19 B19 (R this 12) v_22 hRT hI hE hm_18.1 hm_18.2) (cwV 1 ht (gv k_759 k_760 k_761 k_747 k_758) rfl rfl rfl (by decide +kernel) ⟨Nat.le_of_ble_eq_true rfl, Nat.le_of_ble_eq_true rfl⟩) ⟨En.blind, cr_10 hK hP hm_18.1 hm_18.2, fun U hU hW => ⟨rfl, En.of hU hW hP hK hD hN⟩⟩ rfl rfl hl.1 rfl (lv_room (Nat.le_of_ble_eq_true rfl)) dX11_master_74 ⟨Nat.le_of_ble_eq_true rfl, Nat.le_of_ble_eq_true rfl⟩) hS (fun q _ h => hFc q h) hFc (fun r_u_24 u_24 t9 H locs ht9 hvm hw hB hz1 hk1 hS => ?_)
              have hP := fr_keep hP hk1
              have wu_24 := hw
              clear hFc hk1 hz1 hB hw
              refine W.widen (k := 0) (n := 0) (Nat.le_of_ble_eq_true rfl) (Nat.le_of_ble_eq_true rfl) ?_
              exact W.iret (v := r_u_24) hx hb hr (fun t ht9 hW => ⟨⟨r_u_24, (I19, J19, E19, B19), rfl, ⟨hI, hE, hC_0, trivial⟩, ⟨by rw [ht9]; exact hP, hD⟩⟩, hS.F ht9⟩) hS.2.2 dX11_master_77
            · have q_25 : n2.toInt = (0 : Int32).toInt := (ow_eq _ _).mp c_20
              refine lv_aload_n hx hb dX11_master_57 rfl (lv_at hl 0 rfl) ?_
              refine cg_0_12_11 hx hb ht hown hK hN hP hthis.1 hthis.2 dX11_master_58 ?_
              have hFc := fr_new hS hA
              refine va_calli (va_runV (As := []) (rest := []) ⟨hx, hb, hml, hown, ht⟩ (l_few l G cy _ L K R T I19 E19 J19 B19 (R this 12) hRT hI hE hm_18.1 hm_18.2) (cwV 0 ht (gv k_763 k_764 k_765 k_747 k_762) rfl rfl rfl (by decide +kernel) ⟨Nat.le_of_ble_eq_true rfl, Nat.le_of_ble_eq_true rfl⟩) ⟨En.blind, cr_10 hK hP hm_18.1 hm_18.2, fun U hU hW => ⟨rfl, En.of hU hW hP hK hD hN⟩⟩ rfl rfl hl.1 rfl (lv_room (Nat.le_of_ble_eq_true rfl)) dX11_master_61 ⟨Nat.le_of_ble_eq_true rfl, Nat.le_of_ble_eq_true rfl⟩) hS (fun q _ h => hFc q h) hFc (fun r_u_26 u_26 t9 H locs ht9 hvm hw hB hz1 hk1 hS => ?_)
              have hP := fr_keep hP hk1
              have wu_26 := hw
              clear hFc hk1 hz1 hB hw
              refine lv_goto (tgt := 77) hx hb dX11_master_64 (by decide) ?_
              refine W.widen (k := 0) (n := 0) (Nat.le_of_ble_eq_true rfl) (Nat.le_of_ble_eq_true rfl) ?_
              exact W.iret (v := r_u_26) hx hb hr (fun t ht9 hW => ⟨⟨r_u_26, (I19, J19, E19, B19), rfl, ⟨hI, hE, hC_0, trivial⟩, ⟨by rw [ht9]; exact hP, hD⟩⟩, hS.F ht9⟩) hS.2.2 dX11_master_77
          · have q_27 : (6 : Int32).toInt < r_u_15.toInt := by have := (not_congr (ow_le _ _)).mp c_16; omega
            refine lv_bipush (v := (-2)) hx hb dX11_master_38 (by decide) ?_
            refine W.widen (k := 0) (n := 0) (Nat.le_of_ble_eq_true rfl) (Nat.le_of_ble_eq_true rfl) ?_
            exact W.iret (v := (-2)) hx hb hr (fun t ht9 hW => ⟨⟨(-2), (I, J, E, B), rfl, ⟨hI, hE, hC_0, trivial⟩, ⟨by rw [ht9]; exact hP, hD⟩⟩, hS.F ht9⟩) hS.2.2 dX11_master_40
        · have q_28 : (6 : Int32).toInt < n2.toInt := by have := (not_congr (ow_le _ _)).mp c_13; omega
          refine lv_iconst (v := (-1)) hx hb dX11_master_27 (by decide) ?_
          refine W.widen (k := 0) (n := 0) (Nat.le_of_ble_eq_true rfl) (Nat.le_of_ble_eq_true rfl) ?_
          exact W.iret (v := (-1)) hx hb hr (fun t ht9 hW => ⟨⟨(-1), (I, J, E, B), rfl, ⟨hI, hE, hC_0, trivial⟩, ⟨by rw [ht9]; exact hP, hD⟩⟩, hS.F ht9⟩) hS.2.2 dX11_master_28
