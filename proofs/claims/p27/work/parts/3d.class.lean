theorem k_491 : (Cond.code yX1_pick cX1_pick 5 none) ∈ TBg := tb_mem 827 (by decide +kernel) (by decide +kernel)
theorem k_492 : (Cond.methodLink RX1 31 yX1_pick) ∈ TBg := tb_mem 825 (by decide +kernel) (by decide +kernel)
theorem k_493 : (Cond.static yX1_pick) ∈ TBg := tb_mem 826 (by decide +kernel) (by decide +kernel)
theorem k_494 : (Cond.initialized RX1) ∈ TBg := tb_mem 93 (by decide +kernel) (by decide +kernel)
theorem k_495 : (Cond.code yX9_isNear cX9_isNear 4 (some .boolean)) ∈ TBg := tb_mem 820 (by decide +kernel) (by decide +kernel)
theorem k_496 : (Cond.methodLink RX1 21 yX9_isNear) ∈ TBg := tb_mem 817 (by decide +kernel) (by decide +kernel)
theorem k_497 : (Cond.instanceMethod yX9_isNear) ∈ TBg := tb_mem 818 (by decide +kernel) (by decide +kernel)
theorem k_498 : (Cond.selects RX9 yX9_isNear yX9_isNear) ∈ TBg := tb_mem 819 (by decide +kernel) (by decide +kernel)
theorem k_499 : (Cond.methodLink RX0 28 Lib.Math.abs.name) ∈ TBg := tb_mem 877 (by decide +kernel) (by decide +kernel)
theorem k_500 : (Cond.code yX0_notSweet cX0_notSweet 6 (some .int)) ∈ TBg := tb_mem 876 (by decide +kernel) (by decide +kernel)
theorem k_501 : (Cond.methodLink RX0 34 yX0_notSweet) ∈ TBg := tb_mem 886 (by decide +kernel) (by decide +kernel)
theorem k_502 : (Cond.instanceMethod yX0_notSweet) ∈ TBg := tb_mem 874 (by decide +kernel) (by decide +kernel)
theorem k_503 : (Cond.selects RX0 yX0_notSweet yX0_notSweet) ∈ TBg := tb_mem 875 (by decide +kernel) (by decide +kernel)
theorem k_504 : (Cond.initialized RX0) ∈ TBg := tb_mem 95 (by decide +kernel) (by decide +kernel)
theorem dX1_pick_0 : decode cX1_pick 0 = .ok (.iload_n 3, 1) := by decide +kernel
theorem dX1_pick_1 : decode cX1_pick 1 = .ok (.iload_n 1, 1) := by decide +kernel
theorem dX1_pick_2 : decode cX1_pick 2 = .ok (.iadd, 1) := by decide +kernel
theorem dX1_pick_3 : decode cX1_pick 3 = .ok (.aload_n 0, 1) := by decide +kernel
theorem dX1_pick_4 : decode cX1_pick 4 = .ok (.getfield 28, 3) := by decide +kernel
theorem dX1_pick_7 : decode cX1_pick 7 = .ok (.if_icmp .gt 4, 3) := by decide +kernel
theorem dX1_pick_11 : decode cX1_pick 11 = .ok (.iload_n 1, 1) := by decide +kernel
theorem dX1_pick_12 : decode cX1_pick 12 = .ok (.iconst 1, 1) := by decide +kernel
theorem dX1_pick_13 : decode cX1_pick 13 = .ok (.if_icmp .lt 12, 3) := by decide +kernel
theorem dX1_pick_25 : decode cX1_pick 25 = .ok (.aload_n 0, 1) := by decide +kernel
theorem dX1_pick_26 : decode cX1_pick 26 = .ok (.iload_n 2, 1) := by decide +kernel
theorem dX1_pick_27 : decode cX1_pick 27 = .ok (.putfield 25, 3) := by decide +kernel
theorem dX1_pick_30 : decode cX1_pick 30 = .ok (.aload_n 0, 1) := by decide +kernel
theorem dX1_pick_31 : decode cX1_pick 31 = .ok (.iload_n 3, 1) := by decide +kernel
theorem dX1_pick_32 : decode cX1_pick 32 = .ok (.putfield 28, 3) := by decide +kernel
theorem dX1_pick_35 : decode cX1_pick 35 = .ok (.return_, 1) := by decide +kernel
theorem dX1_pick_10 : decode cX1_pick 10 = .ok (.return_, 1) := by decide +kernel
theorem dX1_pick_16 : decode cX1_pick 16 = .ok (.iload_n 1, 1) := by decide +kernel
theorem dX1_pick_17 : decode cX1_pick 17 = .ok (.aload_n 0, 1) := by decide +kernel
theorem dX1_pick_18 : decode cX1_pick 18 = .ok (.getfield 9, 3) := by decide +kernel
theorem dX1_pick_21 : decode cX1_pick 21 = .ok (.arraylength, 1) := by decide +kernel
theorem dX1_pick_22 : decode cX1_pick 22 = .ok (.if_icmp .le 14, 3) := by decide +kernel
theorem dX1_pick_36 : decode cX1_pick 36 = .ok (.iload_n 1, 1) := by decide +kernel
theorem dX1_pick_37 : decode cX1_pick 37 = .ok (.iconst 1, 1) := by decide +kernel
theorem dX1_pick_38 : decode cX1_pick 38 = .ok (.isub, 1) := by decide +kernel
theorem dX1_pick_39 : decode cX1_pick 39 = .ok (.istore 4, 2) := by decide +kernel
theorem dX1_pick_41 : decode cX1_pick 41 = .ok (.aload_n 0, 1) := by decide +kernel
theorem dX1_pick_42 : decode cX1_pick 42 = .ok (.iload 4, 2) := by decide +kernel
theorem dX1_pick_44 : decode cX1_pick 44 = .ok (.iload_n 2, 1) := by decide +kernel
theorem dX1_pick_45 : decode cX1_pick 45 = .ok (.iload_n 3, 1) := by decide +kernel
theorem dX1_pick_46 : decode cX1_pick 46 = .ok (.invokestatic 31, 3) := by decide +kernel
theorem dX1_pick_49 : decode cX1_pick 49 = .ok (.aload_n 0, 1) := by decide +kernel
theorem dX1_pick_50 : decode cX1_pick 50 = .ok (.getfield 9, 3) := by decide +kernel
theorem dX1_pick_53 : decode cX1_pick 53 = .ok (.iload 4, 2) := by decide +kernel
theorem dX1_pick_55 : decode cX1_pick 55 = .ok (.iaload, 1) := by decide +kernel
theorem dX1_pick_56 : decode cX1_pick 56 = .ok (.iload_n 2, 1) := by decide +kernel
theorem dX1_pick_57 : decode cX1_pick 57 = .ok (.iand, 1) := by decide +kernel
theorem dX1_pick_58 : decode cX1_pick 58 = .ok (.ifCond .ne 18, 3) := by decide +kernel
theorem dX1_pick_76 : decode cX1_pick 76 = .ok (.return_, 1) := by decide +kernel
theorem dX1_pick_61 : decode cX1_pick 61 = .ok (.aload_n 0, 1) := by decide +kernel
theorem dX1_pick_62 : decode cX1_pick 62 = .ok (.iload 4, 2) := by decide +kernel
theorem dX1_pick_64 : decode cX1_pick 64 = .ok (.iload_n 2, 1) := by decide +kernel
theorem dX1_pick_65 : decode cX1_pick 65 = .ok (.iconst 1, 1) := by decide +kernel
theorem dX1_pick_66 : decode cX1_pick 66 = .ok (.iload 4, 2) := by decide +kernel
theorem dX1_pick_68 : decode cX1_pick 68 = .ok (.ishl, 1) := by decide +kernel
theorem dX1_pick_69 : decode cX1_pick 69 = .ok (.ior, 1) := by decide +kernel
theorem dX1_pick_70 : decode cX1_pick 70 = .ok (.iload_n 3, 1) := by decide +kernel
theorem dX1_pick_71 : decode cX1_pick 71 = .ok (.iconst 1, 1) := by decide +kernel
theorem dX1_pick_72 : decode cX1_pick 72 = .ok (.iadd, 1) := by decide +kernel
theorem dX1_pick_73 : decode cX1_pick 73 = .ok (.invokestatic 31, 3) := by decide +kernel
theorem dX1_choose_0 : decode cX1_choose 0 = .ok (.iconst 0, 1) := by decide +kernel
theorem dX1_choose_1 : decode cX1_choose 1 = .ok (.istore_n 3, 1) := by decide +kernel
theorem dX1_choose_2 : decode cX1_choose 2 = .ok (.iload_n 3, 1) := by decide +kernel
theorem dX1_choose_3 : decode cX1_choose 3 = .ok (.aload_n 1, 1) := by decide +kernel
theorem dX1_choose_4 : decode cX1_choose 4 = .ok (.getfield 15, 3) := by decide +kernel
theorem dX1_choose_7 : decode cX1_choose 7 = .ok (.if_icmp .ge 64, 3) := by decide +kernel
theorem dX1_choose_71 : decode cX1_choose 71 = .ok (.aload_n 0, 1) := by decide +kernel
theorem dX1_choose_72 : decode cX1_choose 72 = .ok (.iconst 0, 1) := by decide +kernel
theorem dX1_choose_73 : decode cX1_choose 73 = .ok (.putfield 25, 3) := by decide +kernel
theorem dX1_choose_76 : decode cX1_choose 76 = .ok (.aload_n 0, 1) := by decide +kernel
theorem dX1_choose_77 : decode cX1_choose 77 = .ok (.iconst (-1), 1) := by decide +kernel
theorem dX1_choose_78 : decode cX1_choose 78 = .ok (.putfield 28, 3) := by decide +kernel
theorem dX1_choose_81 : decode cX1_choose 81 = .ok (.aload_n 0, 1) := by decide +kernel
theorem dX1_choose_82 : decode cX1_choose 82 = .ok (.aload_n 1, 1) := by decide +kernel
theorem dX1_choose_83 : decode cX1_choose 83 = .ok (.getfield 15, 3) := by decide +kernel
theorem dX1_choose_86 : decode cX1_choose 86 = .ok (.iconst 0, 1) := by decide +kernel
theorem dX1_choose_87 : decode cX1_choose 87 = .ok (.iconst 0, 1) := by decide +kernel
theorem dX1_choose_88 : decode cX1_choose 88 = .ok (.invokestatic 31, 3) := by decide +kernel
theorem dX1_choose_91 : decode cX1_choose 91 = .ok (.aload_n 0, 1) := by decide +kernel
theorem dX1_choose_92 : decode cX1_choose 92 = .ok (.getfield 25, 3) := by decide +kernel
theorem dX1_choose_95 : decode cX1_choose 95 = .ok (.ireturn, 1) := by decide +kernel
theorem dX1_choose_10 : decode cX1_choose 10 = .ok (.aload_n 0, 1) := by decide +kernel
theorem dX1_choose_11 : decode cX1_choose 11 = .ok (.getfield 9, 3) := by decide +kernel
theorem dX1_choose_14 : decode cX1_choose 14 = .ok (.iload_n 3, 1) := by decide +kernel
theorem dX1_choose_15 : decode cX1_choose 15 = .ok (.iconst 0, 1) := by decide +kernel
theorem dX1_choose_16 : decode cX1_choose 16 = .ok (.iastore, 1) := by decide +kernel
theorem dX1_choose_17 : decode cX1_choose 17 = .ok (.iconst 0, 1) := by decide +kernel
theorem dX1_choose_18 : decode cX1_choose 18 = .ok (.istore 4, 2) := by decide +kernel
theorem dX1_choose_20 : decode cX1_choose 20 = .ok (.iload 4, 2) := by decide +kernel
theorem dX1_choose_22 : decode cX1_choose 22 = .ok (.aload_n 1, 1) := by decide +kernel
theorem dX1_choose_23 : decode cX1_choose 23 = .ok (.getfield 15, 3) := by decide +kernel
theorem dX1_choose_26 : decode cX1_choose 26 = .ok (.if_icmp .ge 39, 3) := by decide +kernel
theorem dX1_choose_65 : decode cX1_choose 65 = .ok (.iinc 3 1, 3) := by decide +kernel
theorem dX1_choose_68 : decode cX1_choose 68 = .ok (.goto (-66), 3) := by decide +kernel
theorem dX1_choose_29 : decode cX1_choose 29 = .ok (.iload_n 3, 1) := by decide +kernel
theorem dX1_choose_30 : decode cX1_choose 30 = .ok (.iload 4, 2) := by decide +kernel
theorem dX1_choose_32 : decode cX1_choose 32 = .ok (.if_icmp .eq 27, 3) := by decide +kernel
theorem dX1_choose_59 : decode cX1_choose 59 = .ok (.iinc 4 1, 3) := by decide +kernel
theorem dX1_choose_62 : decode cX1_choose 62 = .ok (.goto (-42), 3) := by decide +kernel
theorem dX1_choose_35 : decode cX1_choose 35 = .ok (.aload_n 1, 1) := by decide +kernel
theorem dX1_choose_36 : decode cX1_choose 36 = .ok (.iload_n 3, 1) := by decide +kernel
theorem dX1_choose_37 : decode cX1_choose 37 = .ok (.iload 4, 2) := by decide +kernel
theorem dX1_choose_39 : decode cX1_choose 39 = .ok (.iload_n 2, 1) := by decide +kernel
theorem dX1_choose_40 : decode cX1_choose 40 = .ok (.invokevirtual 21, 3) := by decide +kernel
theorem dX1_choose_43 : decode cX1_choose 43 = .ok (.ifCond .eq 16, 3) := by decide +kernel
theorem dX1_choose_46 : decode cX1_choose 46 = .ok (.aload_n 0, 1) := by decide +kernel
theorem dX1_choose_47 : decode cX1_choose 47 = .ok (.getfield 9, 3) := by decide +kernel
theorem dX1_choose_50 : decode cX1_choose 50 = .ok (.iload_n 3, 1) := by decide +kernel
theorem dX1_choose_51 : decode cX1_choose 51 = .ok (.dup2, 1) := by decide +kernel
theorem dX1_choose_52 : decode cX1_choose 52 = .ok (.iaload, 1) := by decide +kernel
theorem dX1_choose_53 : decode cX1_choose 53 = .ok (.iconst 1, 1) := by decide +kernel
theorem dX1_choose_54 : decode cX1_choose 54 = .ok (.iload 4, 2) := by decide +kernel
theorem dX1_choose_56 : decode cX1_choose 56 = .ok (.ishl, 1) := by decide +kernel
theorem dX1_choose_57 : decode cX1_choose 57 = .ok (.ior, 1) := by decide +kernel
theorem dX1_choose_58 : decode cX1_choose 58 = .ok (.iastore, 1) := by decide +kernel
theorem dX0_take_0 : decode cX0_take 0 = .ok (.aload_n 0, 1) := by decide +kernel
theorem dX0_take_1 : decode cX0_take 1 = .ok (.iconst 0, 1) := by decide +kernel
theorem dX0_take_2 : decode cX0_take 2 = .ok (.putfield 15, 3) := by decide +kernel
theorem dX0_take_5 : decode cX0_take 5 = .ok (.iconst 0, 1) := by decide +kernel
theorem dX0_take_6 : decode cX0_take 6 = .ok (.istore_n 2, 1) := by decide +kernel
theorem dX0_take_7 : decode cX0_take 7 = .ok (.iload_n 2, 1) := by decide +kernel
theorem dX0_take_8 : decode cX0_take 8 = .ok (.aload_n 1, 1) := by decide +kernel
theorem dX0_take_9 : decode cX0_take 9 = .ok (.getfield 19, 3) := by decide +kernel
theorem dX0_take_12 : decode cX0_take 12 = .ok (.if_icmp .ge 64, 3) := by decide +kernel
theorem dX0_take_76 : decode cX0_take 76 = .ok (.return_, 1) := by decide +kernel
theorem dX0_take_15 : decode cX0_take 15 = .ok (.iconst 0, 1) := by decide +kernel
theorem dX0_take_16 : decode cX0_take 16 = .ok (.istore_n 3, 1) := by decide +kernel
theorem dX0_take_17 : decode cX0_take 17 = .ok (.iload_n 3, 1) := by decide +kernel
theorem dX0_take_18 : decode cX0_take 18 = .ok (.aload_n 1, 1) := by decide +kernel
theorem dX0_take_19 : decode cX0_take 19 = .ok (.getfield 22, 3) := by decide +kernel
theorem dX0_take_22 : decode cX0_take 22 = .ok (.iload_n 2, 1) := by decide +kernel
theorem dX0_take_23 : decode cX0_take 23 = .ok (.iaload, 1) := by decide +kernel
theorem dX0_take_24 : decode cX0_take 24 = .ok (.if_icmp .ge 46, 3) := by decide +kernel
theorem dX0_take_70 : decode cX0_take 70 = .ok (.iinc 2 1, 3) := by decide +kernel
theorem dX0_take_73 : decode cX0_take 73 = .ok (.goto (-66), 3) := by decide +kernel
theorem dX0_take_27 : decode cX0_take 27 = .ok (.aload_n 0, 1) := by decide +kernel
theorem dX0_take_28 : decode cX0_take 28 = .ok (.getfield 15, 3) := by decide +kernel
theorem dX0_take_31 : decode cX0_take 31 = .ok (.aload_n 0, 1) := by decide +kernel
theorem dX0_take_32 : decode cX0_take 32 = .ok (.getfield 9, 3) := by decide +kernel
theorem dX0_take_35 : decode cX0_take 35 = .ok (.arraylength, 1) := by decide +kernel
theorem dX0_take_36 : decode cX0_take 36 = .ok (.if_icmp .ge 34, 3) := by decide +kernel
theorem dX0_take_39 : decode cX0_take 39 = .ok (.aload_n 0, 1) := by decide +kernel
theorem dX0_take_40 : decode cX0_take 40 = .ok (.getfield 9, 3) := by decide +kernel
theorem dX0_take_43 : decode cX0_take 43 = .ok (.aload_n 0, 1) := by decide +kernel
theorem dX0_take_44 : decode cX0_take 44 = .ok (.getfield 15, 3) := by decide +kernel
theorem dX0_take_47 : decode cX0_take 47 = .ok (.aload_n 1, 1) := by decide +kernel
theorem dX0_take_48 : decode cX0_take 48 = .ok (.getfield 25, 3) := by decide +kernel
theorem dX0_take_51 : decode cX0_take 51 = .ok (.iload_n 2, 1) := by decide +kernel
theorem dX0_take_52 : decode cX0_take 52 = .ok (.iaload, 1) := by decide +kernel
theorem dX0_take_53 : decode cX0_take 53 = .ok (.iastore, 1) := by decide +kernel
theorem dX0_take_54 : decode cX0_take 54 = .ok (.aload_n 0, 1) := by decide +kernel
theorem dX0_take_55 : decode cX0_take 55 = .ok (.dup, 1) := by decide +kernel
theorem dX0_take_56 : decode cX0_take 56 = .ok (.getfield 15, 3) := by decide +kernel
theorem dX0_take_59 : decode cX0_take 59 = .ok (.iconst 1, 1) := by decide +kernel
theorem dX0_take_60 : decode cX0_take 60 = .ok (.iadd, 1) := by decide +kernel
theorem dX0_take_61 : decode cX0_take 61 = .ok (.putfield 15, 3) := by decide +kernel
theorem dX0_take_64 : decode cX0_take 64 = .ok (.iinc 3 1, 3) := by decide +kernel
theorem dX0_take_67 : decode cX0_take 67 = .ok (.goto (-50), 3) := by decide +kernel
theorem dX0_notSweet_0 : decode cX0_notSweet 0 = .ok (.iconst 0, 1) := by decide +kernel
theorem dX0_notSweet_1 : decode cX0_notSweet 1 = .ok (.istore_n 3, 1) := by decide +kernel
theorem dX0_notSweet_2 : decode cX0_notSweet 2 = .ok (.iload_n 1, 1) := by decide +kernel
theorem dX0_notSweet_3 : decode cX0_notSweet 3 = .ok (.istore 4, 2) := by decide +kernel
theorem dX0_notSweet_5 : decode cX0_notSweet 5 = .ok (.iload 4, 2) := by decide +kernel
theorem dX0_notSweet_7 : decode cX0_notSweet 7 = .ok (.aload_n 0, 1) := by decide +kernel
theorem dX0_notSweet_8 : decode cX0_notSweet 8 = .ok (.getfield 15, 3) := by decide +kernel
theorem dX0_notSweet_11 : decode cX0_notSweet 11 = .ok (.if_icmp .ge 60, 3) := by decide +kernel
theorem dX0_notSweet_71 : decode cX0_notSweet 71 = .ok (.iload_n 3, 1) := by decide +kernel
theorem dX0_notSweet_72 : decode cX0_notSweet 72 = .ok (.ireturn, 1) := by decide +kernel
theorem dX0_notSweet_14 : decode cX0_notSweet 14 = .ok (.iload_n 1, 1) := by decide +kernel
theorem dX0_notSweet_15 : decode cX0_notSweet 15 = .ok (.ifCond .le 56, 3) := by decide +kernel
theorem dX0_notSweet_18 : decode cX0_notSweet 18 = .ok (.aload_n 0, 1) := by decide +kernel
theorem dX0_notSweet_19 : decode cX0_notSweet 19 = .ok (.getfield 9, 3) := by decide +kernel
theorem dX0_notSweet_22 : decode cX0_notSweet 22 = .ok (.iload 4, 2) := by decide +kernel
theorem dX0_notSweet_24 : decode cX0_notSweet 24 = .ok (.iaload, 1) := by decide +kernel
theorem dX0_notSweet_25 : decode cX0_notSweet 25 = .ok (.aload_n 0, 1) := by decide +kernel
theorem dX0_notSweet_26 : decode cX0_notSweet 26 = .ok (.getfield 9, 3) := by decide +kernel
theorem dX0_notSweet_29 : decode cX0_notSweet 29 = .ok (.iload 4, 2) := by decide +kernel
theorem dX0_notSweet_31 : decode cX0_notSweet 31 = .ok (.iload_n 1, 1) := by decide +kernel
theorem dX0_notSweet_32 : decode cX0_notSweet 32 = .ok (.isub, 1) := by decide +kernel
theorem dX0_notSweet_33 : decode cX0_notSweet 33 = .ok (.iaload, 1) := by decide +kernel
theorem dX0_notSweet_34 : decode cX0_notSweet 34 = .ok (.isub, 1) := by decide +kernel
theorem dX0_notSweet_35 : decode cX0_notSweet 35 = .ok (.invokestatic 28, 3) := by decide +kernel
theorem dX0_notSweet_38 : decode cX0_notSweet 38 = .ok (.bipush 12, 2) := by decide +kernel
theorem dX0_notSweet_40 : decode cX0_notSweet 40 = .ok (.irem, 1) := by decide +kernel
theorem dX0_notSweet_41 : decode cX0_notSweet 41 = .ok (.istore 5, 2) := by decide +kernel
theorem dX0_notSweet_43 : decode cX0_notSweet 43 = .ok (.iload 5, 2) := by decide +kernel
theorem dX0_notSweet_45 : decode cX0_notSweet 45 = .ok (.ifCond .lt 17, 3) := by decide +kernel
theorem dX0_notSweet_62 : decode cX0_notSweet 62 = .ok (.iinc 3 1, 3) := by decide +kernel
theorem dX0_notSweet_65 : decode cX0_notSweet 65 = .ok (.iinc 4 1, 3) := by decide +kernel
theorem dX0_notSweet_68 : decode cX0_notSweet 68 = .ok (.goto (-63), 3) := by decide +kernel
theorem dX0_notSweet_48 : decode cX0_notSweet 48 = .ok (.iload 5, 2) := by decide +kernel
theorem dX0_notSweet_50 : decode cX0_notSweet 50 = .ok (.aload_n 2, 1) := by decide +kernel
theorem dX0_notSweet_51 : decode cX0_notSweet 51 = .ok (.arraylength, 1) := by decide +kernel
theorem dX0_notSweet_52 : decode cX0_notSweet 52 = .ok (.if_icmp .ge 10, 3) := by decide +kernel
theorem dX0_notSweet_55 : decode cX0_notSweet 55 = .ok (.aload_n 2, 1) := by decide +kernel
theorem dX0_notSweet_56 : decode cX0_notSweet 56 = .ok (.iload 5, 2) := by decide +kernel
theorem dX0_notSweet_58 : decode cX0_notSweet 58 = .ok (.baload, 1) := by decide +kernel
theorem dX0_notSweet_59 : decode cX0_notSweet 59 = .ok (.ifCond .ne 6, 3) := by decide +kernel
theorem dX0_bestLater_0 : decode cX0_bestLater 0 = .ok (.iconst (-1), 1) := by decide +kernel
theorem dX0_bestLater_1 : decode cX0_bestLater 1 = .ok (.istore_n 2, 1) := by decide +kernel
theorem dX0_bestLater_2 : decode cX0_bestLater 2 = .ok (.iconst 0, 1) := by decide +kernel
theorem dX0_bestLater_3 : decode cX0_bestLater 3 = .ok (.istore_n 3, 1) := by decide +kernel
theorem dX0_bestLater_4 : decode cX0_bestLater 4 = .ok (.iconst 1, 1) := by decide +kernel
theorem dX0_bestLater_5 : decode cX0_bestLater 5 = .ok (.istore 4, 2) := by decide +kernel
theorem dX0_bestLater_7 : decode cX0_bestLater 7 = .ok (.iload 4, 2) := by decide +kernel
theorem dX0_bestLater_9 : decode cX0_bestLater 9 = .ok (.bipush 99, 2) := by decide +kernel
theorem dX0_bestLater_11 : decode cX0_bestLater 11 = .ok (.if_icmp .gt 44, 3) := by decide +kernel
theorem dX0_bestLater_55 : decode cX0_bestLater 55 = .ok (.iload_n 2, 1) := by decide +kernel
theorem dX0_bestLater_56 : decode cX0_bestLater 56 = .ok (.ireturn, 1) := by decide +kernel
theorem dX0_bestLater_14 : decode cX0_bestLater 14 = .ok (.iload 4, 2) := by decide +kernel
theorem dX0_bestLater_16 : decode cX0_bestLater 16 = .ok (.aload_n 0, 1) := by decide +kernel
theorem dX0_bestLater_17 : decode cX0_bestLater 17 = .ok (.getfield 15, 3) := by decide +kernel
theorem dX0_bestLater_20 : decode cX0_bestLater 20 = .ok (.if_icmp .ge 35, 3) := by decide +kernel
theorem dX0_bestLater_23 : decode cX0_bestLater 23 = .ok (.aload_n 0, 1) := by decide +kernel
theorem dX0_bestLater_24 : decode cX0_bestLater 24 = .ok (.iload 4, 2) := by decide +kernel
theorem dX0_bestLater_26 : decode cX0_bestLater 26 = .ok (.aload_n 1, 1) := by decide +kernel
theorem dX0_bestLater_27 : decode cX0_bestLater 27 = .ok (.invokevirtual 34, 3) := by decide +kernel
theorem dX0_bestLater_30 : decode cX0_bestLater 30 = .ok (.istore 5, 2) := by decide +kernel
theorem dX0_bestLater_32 : decode cX0_bestLater 32 = .ok (.iload_n 2, 1) := by decide +kernel
theorem dX0_bestLater_33 : decode cX0_bestLater 33 = .ok (.iconst (-1), 1) := by decide +kernel
theorem dX0_bestLater_34 : decode cX0_bestLater 34 = .ok (.if_icmp .eq 9, 3) := by decide +kernel
theorem dX0_bestLater_43 : decode cX0_bestLater 43 = .ok (.iload 4, 2) := by decide +kernel
theorem dX0_bestLater_45 : decode cX0_bestLater 45 = .ok (.istore_n 2, 1) := by decide +kernel
theorem dX0_bestLater_46 : decode cX0_bestLater 46 = .ok (.iload 5, 2) := by decide +kernel
theorem dX0_bestLater_48 : decode cX0_bestLater 48 = .ok (.istore_n 3, 1) := by decide +kernel
theorem dX0_bestLater_49 : decode cX0_bestLater 49 = .ok (.iinc 4 1, 3) := by decide +kernel
theorem dX0_bestLater_52 : decode cX0_bestLater 52 = .ok (.goto (-45), 3) := by decide +kernel
theorem dX0_bestLater_37 : decode cX0_bestLater 37 = .ok (.iload 5, 2) := by decide +kernel
theorem dX0_bestLater_39 : decode cX0_bestLater 39 = .ok (.iload_n 3, 1) := by decide +kernel
theorem dX0_bestLater_40 : decode cX0_bestLater 40 = .ok (.if_icmp .ge 9, 3) := by decide +kernel
set_option maxHeartbeats 4000000 in
set_option maxRecDepth 100000 in
theorem c_pick0 (l : Launch) (G : va_G) (cy : Nat → ClassId) (sz : Nat) (L : List Nat) (K : Nat → Nat) (R : Nat → Nat → Nat) (T : Int) (I E : Nat → Nat → Int32) (J B : Nat → Nat → Int64) (deal : Nat) (n : Int32) (n2 : Int32) (n3 : Int32) (hRT : RT L K R) (hI : IV T L K I) (hE : EV L K E) (h_deal1 : deal ∈ L) (h_deal2 : K deal = 9) (h_n : -2147483648 ≤ n.toInt ∧ n.toInt ≤ 0) : Met l yX1_pick (.code yX1_pick cX1_pick 5 none :: TBg) ({ frames := 1, cells := 0, slots := 0, locals := 64 }) (va_Pc [.ref deal, .int n, .int n2, .int n3] (En G cy (WC cy L K R I J E B) sz)) (va_Qv (fun (u : (Nat → Nat → Int32) × (Nat → Nat → Int64) × (Nat → Nat → Int32) × (Nat → Nat → Int64)) => IV T L K u.1 ∧ EV L K u.2.2.1 ∧ FI [(9, 1), (9, 2)] K I u.1 ∧ (True)) (fun u t => Ex G (va_A (WC cy L K R I J E B) sz) (WC cy L K R u.1 u.2.1 u.2.2.1 u.2.2.2) t) (va_A (WC cy L K R I J E B) sz)) 0 0 (va_A (WC cy L K R I J E B) sz) := by
  have h_deal : deal ∈ L ∧ K deal = 9 := ⟨h_deal1, h_deal2⟩
  refine Met.ofW (cc := cX1_pick) (maxL := 5) (ret := none) (by decide) rfl ?_
  intro p e s m args below meth c s₁ B9 hml hv9
  obtain ⟨rfl, hsz, hP, hK, hD0, hN⟩ := hv9
  have hx := B9.exec
  have hb := B9.bytes
  have hr := B9.returns
  have hts := atoms_spec (ws := .code yX1_pick cX1_pick 5 none :: TBg) B9.pre
  have ht : ∀ w ∈ TBg, w.before _ s = true := fun w h => hts w (List.mem_cons_of_mem _ h)
  have hown : s.vm.findClass RX1 = some m.cls := findClass_of_methodNamed B9.named
  have hlocks := B9.notSynchronized
  subst hsz
  have hD := hD0.self (sz := s.heap.size)
  generalize hAe : va_A (WC cy L K R I J E B) s.heap.size = A at hD ⊢
  have hA : ∀ q : Nat, s.heap.size ≤ q → A q := fun q h => by rw [← hAe]; exact Or.inr h
  have hS : va_S A s.heap s.heap [] := va_S.rf
  have hl := lv_entry ([.ref deal, .int n, .int n2, .int n3]) (n := 5) (Nat.le_of_ble_eq_true rfl)
  rw [lg_entry_eq]
  generalize (lg_sl ([.ref deal, .int n, .int n2, .int n3]) ++ List.replicate (5 - (lg_sl ([.ref deal, .int n, .int n2, .int n3])).length) Slot.unset).toArray = ls at hl ⊢
  have hl : lv_has ls 5 [(0, .ref deal), (1, .int n), (2, .int n2), (3, .int n3)] := hl
  have z0 : (1 : Int32).toInt = 1 := by decide
  have hC_0 : FI [(9, 1), (9, 2)] K I I := FI.rf
  refine lv_iload_n hx hb dX1_pick_0 rfl (lv_at hl 3 rfl) ?_
  refine lv_iload_n hx hb dX1_pick_1 rfl (lv_at hl 1 rfl) ?_
  refine lv_iadd hx hb dX1_pick_2 ?_
  refine lv_topi (fun v_1 ev_1 => ?_)
  refine lv_aload_n hx hb dX1_pick_3 rfl (lv_at hl 0 rfl) ?_
  refine cg_9_2_1 hx hb ht hown hK hN hP h_deal.1 h_deal.2 dX1_pick_4 ?_
  refine lv_icmp_gt (tgt := 11) hx hb dX1_pick_7 (by decide) (fun c_2 => ?_) (fun c_2 => ?_)
  · have q_3 : (I deal 2).toInt < v_1.toInt := (ow_lt _ _).mp c_2
    refine lv_iload_n hx hb dX1_pick_11 rfl (lv_at hl 1 rfl) ?_
    refine lv_iconst (v := 1) hx hb dX1_pick_12 (by decide) ?_
    refine lv_icmp_lt (tgt := 25) hx hb dX1_pick_13 (by decide) (fun c_4 => ?_) (fun c_4 => ?_)
    · have q_5 : n.toInt < (1 : Int32).toInt := (ow_lt _ _).mp c_4
      refine lv_aload_n hx hb dX1_pick_25 rfl (lv_at hl 0 rfl) ?_
      refine lv_iload_n hx hb dX1_pick_26 rfl (lv_at hl 2 rfl) ?_
      refine cp_9_1_1 hx hb ht hown hK hN hP hD hS h_deal.1 h_deal.2 dX1_pick_27 (fun H locs hP hD hS => ?_)
      replace hI := IV.up hI h_deal.2 1 (ow_any n2)
      have f_6 : FI [(9, 1)] K I (va_up I deal (va_up (I deal) 1 n2)) := FI.up h_deal.2 1 n2
      have e_7 : (va_up I deal (va_up (I deal) 1 n2)) deal 1 = n2 := FI.at I deal 1 n2
      replace hC_0 := FI.tr hC_0 f_6 (by decide)
      generalize (va_up I deal (va_up (I deal) 1 n2)) = I_8 at hP hD hI f_6 e_7 hC_0
      refine lv_aload_n hx hb dX1_pick_30 rfl (lv_at hl 0 rfl) ?_
      refine lv_iload_n hx hb dX1_pick_31 rfl (lv_at hl 3 rfl) ?_
      refine cp_9_2_1 hx hb ht hown hK hN hP hD hS h_deal.1 h_deal.2 dX1_pick_32 (fun H locs hP hD hS => ?_)
      replace hI := IV.up hI h_deal.2 2 (ow_any n3)
      have f_9 : FI [(9, 2)] K I_8 (va_up I_8 deal (va_up (I_8 deal) 2 n3)) := FI.up h_deal.2 2 n3
      have e_10 : (va_up I_8 deal (va_up (I_8 deal) 2 n3)) deal 2 = n3 := FI.at I_8 deal 2 n3
      replace hC_0 := FI.tr hC_0 f_9 (by decide)
      generalize (va_up I_8 deal (va_up (I_8 deal) 2 n3)) = I_11 at hP hD hI f_9 e_10 hC_0
      refine W.widen (k := 0) (n := 0) (Nat.le_of_ble_eq_true rfl) (Nat.le_of_ble_eq_true rfl) ?_
      exact W.vret hx hb hr (fun t ht9 hW => ⟨⟨(I_11, J, E, B), rfl, ⟨hI, hE, hC_0, trivial⟩, ⟨by rw [ht9]; exact hP, hD⟩⟩, hS.F ht9⟩) hS.2.2 dX1_pick_35
    · have q_12 : (1 : Int32).toInt ≤ n.toInt := by have := (not_congr (ow_lt _ _)).mp c_4; omega
      exfalso
      omega
  · have q_13 : v_1.toInt ≤ (I deal 2).toInt := by have := (not_congr (ow_lt _ _)).mp c_2; omega
    refine W.widen (k := 0) (n := 0) (Nat.le_of_ble_eq_true rfl) (Nat.le_of_ble_eq_true rfl) ?_
    exact W.vret hx hb hr (fun t ht9 hW => ⟨⟨(I, J, E, B), rfl, ⟨hI, hE, hC_0, trivial⟩, ⟨by rw [ht9]; exact hP, hD⟩⟩, hS.F ht9⟩) hS.2.2 dX1_pick_10
set_option maxHeartbeats 4000000 in
set_option maxRecDepth 100000 in
theorem c_pick1 (l : Launch) (G : va_G) (cy : Nat → ClassId) (sz : Nat) (L : List Nat) (K : Nat → Nat) (R : Nat → Nat → Nat) (T : Int) (I E : Nat → Nat → Int32) (J B : Nat → Nat → Int64) (deal : Nat) (n : Int32) (n2 : Int32) (n3 : Int32) (hRT : RT L K R) (hI : IV T L K I) (hE : EV L K E) (h_deal1 : deal ∈ L) (h_deal2 : K deal = 9) (h_n : -2147483648 ≤ n.toInt ∧ n.toInt ≤ 1) : Met l yX1_pick (.code yX1_pick cX1_pick 5 none :: TBg) ({ frames := 2, cells := 0, slots := 0, locals := 128 }) (va_Pc [.ref deal, .int n, .int n2, .int n3] (En G cy (WC cy L K R I J E B) sz)) (va_Qv (fun (u : (Nat → Nat → Int32) × (Nat → Nat → Int64) × (Nat → Nat → Int32) × (Nat → Nat → Int64)) => IV T L K u.1 ∧ EV L K u.2.2.1 ∧ FI [(9, 1), (9, 2)] K I u.1 ∧ (True)) (fun u t => Ex G (va_A (WC cy L K R I J E B) sz) (WC cy L K R u.1 u.2.1 u.2.2.1 u.2.2.2) t) (va_A (WC cy L K R I J E B) sz)) 0 0 (va_A (WC cy L K R I J E B) sz) := by
  have h_deal : deal ∈ L ∧ K deal = 9 := ⟨h_deal1, h_deal2⟩
  refine Met.ofW (cc := cX1_pick) (maxL := 5) (ret := none) (by decide) rfl ?_
  intro p e s m args below meth c s₁ B9 hml hv9
  obtain ⟨rfl, hsz, hP, hK, hD0, hN⟩ := hv9
  have hx := B9.exec
  have hb := B9.bytes
  have hr := B9.returns
  have hts := atoms_spec (ws := .code yX1_pick cX1_pick 5 none :: TBg) B9.pre
  have ht : ∀ w ∈ TBg, w.before _ s = true := fun w h => hts w (List.mem_cons_of_mem _ h)
  have hown : s.vm.findClass RX1 = some m.cls := findClass_of_methodNamed B9.named
  have hlocks := B9.notSynchronized
  subst hsz
  have hD := hD0.self (sz := s.heap.size)
  generalize hAe : va_A (WC cy L K R I J E B) s.heap.size = A at hD ⊢
  have hA : ∀ q : Nat, s.heap.size ≤ q → A q := fun q h => by rw [← hAe]; exact Or.inr h
  have hS : va_S A s.heap s.heap [] := va_S.rf
  have hl := lv_entry ([.ref deal, .int n, .int n2, .int n3]) (n := 5) (Nat.le_of_ble_eq_true rfl)
  rw [lg_entry_eq]
  generalize (lg_sl ([.ref deal, .int n, .int n2, .int n3]) ++ List.replicate (5 - (lg_sl ([.ref deal, .int n, .int n2, .int n3])).length) Slot.unset).toArray = ls at hl ⊢
  have hl : lv_has ls 5 [(0, .ref deal), (1, .int n), (2, .int n2), (3, .int n3)] := hl
  have z0 : (0 : Int32).toInt = 0 := by decide
  have z1 : (1 : Int32).toInt = 1 := by decide
  have z2 : (14 : Int32).toInt = 14 := by decide
  have hC_0 : FI [(9, 1), (9, 2)] K I I := FI.rf
  refine lv_iload_n hx hb dX1_pick_0 rfl (lv_at hl 3 rfl) ?_
  refine lv_iload_n hx hb dX1_pick_1 rfl (lv_at hl 1 rfl) ?_
  refine lv_iadd hx hb dX1_pick_2 ?_
  refine lv_topi (fun v_1 ev_1 => ?_)
  refine lv_aload_n hx hb dX1_pick_3 rfl (lv_at hl 0 rfl) ?_
  refine cg_9_2_1 hx hb ht hown hK hN hP h_deal.1 h_deal.2 dX1_pick_4 ?_
  refine lv_icmp_gt (tgt := 11) hx hb dX1_pick_7 (by decide) (fun c_2 => ?_) (fun c_2 => ?_)
  · have q_3 : (I deal 2).toInt < v_1.toInt := (ow_lt _ _).mp c_2
    refine lv_iload_n hx hb dX1_pick_11 rfl (lv_at hl 1 rfl) ?_
    refine lv_iconst (v := 1) hx hb dX1_pick_12 (by decide) ?_
    refine lv_icmp_lt (tgt := 25) hx hb dX1_pick_13 (by decide) (fun c_4 => ?_) (fun c_4 => ?_)
    · have q_5 : n.toInt < (1 : Int32).toInt := (ow_lt _ _).mp c_4
      refine lv_aload_n hx hb dX1_pick_25 rfl (lv_at hl 0 rfl) ?_
      refine lv_iload_n hx hb dX1_pick_26 rfl (lv_at hl 2 rfl) ?_
      refine cp_9_1_1 hx hb ht hown hK hN hP hD hS h_deal.1 h_deal.2 dX1_pick_27 (fun H locs hP hD hS => ?_)
      replace hI := IV.up hI h_deal.2 1 (ow_any n2)
      have f_6 : FI [(9, 1)] K I (va_up I deal (va_up (I deal) 1 n2)) := FI.up h_deal.2 1 n2
      have e_7 : (va_up I deal (va_up (I deal) 1 n2)) deal 1 = n2 := FI.at I deal 1 n2
      replace hC_0 := FI.tr hC_0 f_6 (by decide)
      generalize (va_up I deal (va_up (I deal) 1 n2)) = I_8 at hP hD hI f_6 e_7 hC_0
      refine lv_aload_n hx hb dX1_pick_30 rfl (lv_at hl 0 rfl) ?_
      refine lv_iload_n hx hb dX1_pick_31 rfl (lv_at hl 3 rfl) ?_
      refine cp_9_2_1 hx hb ht hown hK hN hP hD hS h_deal.1 h_deal.2 dX1_pick_32 (fun H locs hP hD hS => ?_)
      replace hI := IV.up hI h_deal.2 2 (ow_any n3)
      have f_9 : FI [(9, 2)] K I_8 (va_up I_8 deal (va_up (I_8 deal) 2 n3)) := FI.up h_deal.2 2 n3
      have e_10 : (va_up I_8 deal (va_up (I_8 deal) 2 n3)) deal 2 = n3 := FI.at I_8 deal 2 n3
      replace hC_0 := FI.tr hC_0 f_9 (by decide)
      generalize (va_up I_8 deal (va_up (I_8 deal) 2 n3)) = I_11 at hP hD hI f_9 e_10 hC_0
      refine W.widen (k := 0) (n := 0) (Nat.le_of_ble_eq_true rfl) (Nat.le_of_ble_eq_true rfl) ?_
      exact W.vret hx hb hr (fun t ht9 hW => ⟨⟨(I_11, J, E, B), rfl, ⟨hI, hE, hC_0, trivial⟩, ⟨by rw [ht9]; exact hP, hD⟩⟩, hS.F ht9⟩) hS.2.2 dX1_pick_35
    · have q_12 : (1 : Int32).toInt ≤ n.toInt := by have := (not_congr (ow_lt _ _)).mp c_4; omega
      refine lv_iload_n hx hb dX1_pick_16 rfl (lv_at hl 1 rfl) ?_
      refine lv_aload_n hx hb dX1_pick_17 rfl (lv_at hl 0 rfl) ?_
      refine cg_9_0_1 hx hb ht hown hK hN hP h_deal.1 h_deal.2 dX1_pick_18 ?_
      have hm_13 : (R deal 0) ∈ L ∧ K (R deal 0) = 39 := RT.o hRT h_deal.1 h_deal.2 0 (by decide)
      refine cn_39 hx hb hK hP hm_13.1 hm_13.2 dX1_pick_21 ?_
      refine lv_icmp_le (tgt := 36) hx hb dX1_pick_22 (by decide) (fun c_14 => ?_) (fun c_14 => ?_)
      · have q_15 : n.toInt ≤ (14 : Int32).toInt := (ow_le _ _).mp c_14
        refine lv_iload_n hx hb dX1_pick_36 rfl (lv_at hl 1 rfl) ?_
        refine lv_iconst (v := 1) hx hb dX1_pick_37 (by decide) ?_
        refine lv_isub hx hb dX1_pick_38 ?_
        refine lv_topi (fun v_16 ev_16 => ?_)
        have q_17 : v_16.toInt = n.toInt - (1 : Int32).toInt := ow_sub ev_16 (by omega) (by omega)
        refine lv_istore (lv' := [(4, .int v_16), (0, .ref deal), (1, .int n), (2, .int n2), (3, .int n3)]) hx hb dX1_pick_39 hl (by decide) rfl (fun ls hl => ?_)
        refine lv_aload_n hx hb dX1_pick_41 rfl (lv_at hl 1 rfl) ?_
        refine lv_iload hx hb dX1_pick_42 (lv_at hl 0 rfl) ?_
        refine lv_iload_n hx hb dX1_pick_44 rfl (lv_at hl 3 rfl) ?_
        refine lv_iload_n hx hb dX1_pick_45 rfl (lv_at hl 4 rfl) ?_
        have hFc := fr_free hD hS hA
        refine va_callv (va_runS (As := [.ref deal, .int v_16, .int n2, .int n3]) (rest := []) ⟨hx, hb, hml, hown, ht⟩ (c_pick0 l G cy _ L K R T I E J B deal v_16 n2 n3 hRT hI hE h_deal.1 h_deal.2 (by omega)) (va_cwS 4 ht (gs k_492 k_493 k_494 k_491) rfl rfl rfl (by decide +kernel) ⟨Nat.le_of_ble_eq_true rfl, Nat.le_of_ble_eq_true rfl⟩) ⟨En.blind, fun U hU hW => ⟨rfl, En.of hU hW hP hK hD hN⟩⟩ rfl rfl hl.1 rfl (lv_room (Nat.le_of_ble_eq_true rfl)) dX1_pick_46 ⟨Nat.le_of_ble_eq_true rfl, Nat.le_of_ble_eq_true rfl⟩) hS (fun q _ h => hFc q h) hFc (fun u_18 t9 H locs ht9 hvm hw hB hz1 hk1 hS => ?_)
        obtain ⟨I18, J18, E18, B18⟩ := u_18
        obtain ⟨hP1, hD1⟩ := hB
        rw [ht9] at hP1
        clear hI hE
        obtain ⟨hI, hE, xu_18I, wu_18⟩ := hw
        dsimp only at hI hE xu_18I wu_18
        have hP : va_P G vwCl (WC cy L K R I18 J18 E18 B18) H := hP1
        have hD : va_D A (WC cy L K R I18 J18 E18 B18) := hD1.weaken (fun _ _ _ h => hFc _ h)
        clear hFc hk1 hz1 hP1 hD1
        replace hC_0 := FI.tr hC_0 xu_18I (by decide)
        refine lv_aload_n hx hb dX1_pick_49 rfl (lv_at hl 1 rfl) ?_
        refine cg_9_0_1 hx hb ht hown hK hN hP h_deal.1 h_deal.2 dX1_pick_50 ?_
        refine lv_iload hx hb dX1_pick_53 (lv_at hl 0 rfl) ?_
        have q_19 : vp_in v_16 14 := vp_in_iff.mpr ⟨by omega, by omega⟩
        refine cl_39 hx hb hK hP hm_13.1 hm_13.2 q_19 dX1_pick_55 ?_
        refine lv_topi (fun v_20 ev_20 => ?_)
        refine lv_iload_n hx hb dX1_pick_56 rfl (lv_at hl 3 rfl) ?_
        refine lv_iand hx hb dX1_pick_57 ?_
        refine lv_topi (fun v_21 ev_21 => ?_)
        refine lv_if_ne (tgt := 76) hx hb dX1_pick_58 (by decide) (fun c_22 => ?_) (fun c_22 => ?_)
        · have q_23 : ¬ v_21.toInt = (0 : Int32).toInt := by have := (not_congr (ow_eq _ _)).mp c_22; omega
          refine W.widen (k := 0) (n := 0) (Nat.le_of_ble_eq_true rfl) (Nat.le_of_ble_eq_true rfl) ?_
          exact W.vret hx hb hr (fun t ht9 hW => ⟨⟨(I18, J18, E18, B18), rfl, ⟨hI, hE, hC_0, trivial⟩, ⟨by rw [ht9]; exact hP, hD⟩⟩, hS.F ht9⟩) hS.2.2 dX1_pick_76
        · have q_24 : v_21.toInt = (0 : Int32).toInt := (ow_eq _ _).mp c_22
          refine lv_aload_n hx hb dX1_pick_61 rfl (lv_at hl 1 rfl) ?_
          refine lv_iload hx hb dX1_pick_62 (lv_at hl 0 rfl) ?_
          refine lv_iload_n hx hb dX1_pick_64 rfl (lv_at hl 3 rfl) ?_
          refine lv_iconst (v := 1) hx hb dX1_pick_65 (by decide) ?_
          refine lv_iload hx hb dX1_pick_66 (lv_at hl 0 rfl) ?_
          refine lv_ishl hx hb dX1_pick_68 ?_
          refine lv_topi (fun v_25 ev_25 => ?_)
          refine lv_ior hx hb dX1_pick_69 ?_
          refine lv_topi (fun v_26 ev_26 => ?_)
          refine lv_iload_n hx hb dX1_pick_70 rfl (lv_at hl 4 rfl) ?_
          refine lv_iconst (v := 1) hx hb dX1_pick_71 (by decide) ?_
          refine lv_iadd hx hb dX1_pick_72 ?_
          refine lv_topi (fun v_27 ev_27 => ?_)
          have hFc := fr_free hD hS hA
          refine va_callv (va_runS (As := [.ref deal, .int v_16, .int v_26, .int v_27]) (rest := []) ⟨hx, hb, hml, hown, ht⟩ (c_pick0 l G cy _ L K R T I18 E18 J18 B18 deal v_16 v_26 v_27 hRT hI hE h_deal.1 h_deal.2 (by omega)) (va_cwS 4 ht (gs k_492 k_493 k_494 k_491) rfl rfl rfl (by decide +kernel) ⟨Nat.le_of_ble_eq_true rfl, Nat.le_of_ble_eq_true rfl⟩) ⟨En.blind, fun U hU hW => ⟨rfl, En.of hU hW hP hK hD hN⟩⟩ rfl rfl hl.1 rfl (lv_room (Nat.le_of_ble_eq_true rfl)) dX1_pick_73 ⟨Nat.le_of_ble_eq_true rfl, Nat.le_of_ble_eq_true rfl⟩) hS (fun q _ h => hFc q h) hFc (fun u_28 t9 H locs ht9 hvm hw hB hz1 hk1 hS => ?_)
          obtain ⟨I28, J28, E28, B28⟩ := u_28
          obtain ⟨hP1, hD1⟩ := hB
          rw [ht9] at hP1
          clear hI hE
          obtain ⟨hI, hE, xu_28I, wu_28⟩ := hw
          dsimp only at hI hE xu_28I wu_28
          have hP : va_P G vwCl (WC cy L K R I28 J28 E28 B28) H := hP1
          have hD : va_D A (WC cy L K R I28 J28 E28 B28) := hD1.weaken (fun _ _ _ h => hFc _ h)
          clear hFc hk1 hz1 hP1 hD1
          replace hC_0 := FI.tr hC_0 xu_28I (by decide)
          refine W.widen (k := 0) (n := 0) (Nat.le_of_ble_eq_true rfl) (Nat.le_of_ble_eq_true rfl) ?_
          exact W.vret hx hb hr (fun t ht9 hW => ⟨⟨(I28, J28, E28, B28), rfl, ⟨hI, hE, hC_0, trivial⟩, ⟨by rw [ht9]; exact hP, hD⟩⟩, hS.F ht9⟩) hS.2.2 dX1_pick_76
      · have q_29 : (14 : Int32).toInt < n.toInt := by have := (not_congr (ow_le _ _)).mp c_14; omega
        exfalso
        omega
  · have q_30 : v_1.toInt ≤ (I deal 2).toInt := by have := (not_congr (ow_lt _ _)).mp c_2; omega
    refine W.widen (k := 0) (n := 0) (Nat.le_of_ble_eq_true rfl) (Nat.le_of_ble_eq_true rfl) ?_
    exact W.vret hx hb hr (fun t ht9 hW => ⟨⟨(I, J, E, B), rfl, ⟨hI, hE, hC_0, trivial⟩, ⟨by rw [ht9]; exact hP, hD⟩⟩, hS.F ht9⟩) hS.2.2 dX1_pick_10
set_option maxHeartbeats 4000000 in
set_option maxRecDepth 100000 in
theorem c_pick2 (l : Launch) (G : va_G) (cy : Nat → ClassId) (sz : Nat) (L : List Nat) (K : Nat → Nat) (R : Nat → Nat → Nat) (T : Int) (I E : Nat → Nat → Int32) (J B : Nat → Nat → Int64) (deal : Nat) (n : Int32) (n2 : Int32) (n3 : Int32) (hRT : RT L K R) (hI : IV T L K I) (hE : EV L K E) (h_deal1 : deal ∈ L) (h_deal2 : K deal = 9) (h_n : -2147483648 ≤ n.toInt ∧ n.toInt ≤ 2) : Met l yX1_pick (.code yX1_pick cX1_pick 5 none :: TBg) ({ frames := 3, cells := 0, slots := 0, locals := 192 }) (va_Pc [.ref deal, .int n, .int n2, .int n3] (En G cy (WC cy L K R I J E B) sz)) (va_Qv (fun (u : (Nat → Nat → Int32) × (Nat → Nat → Int64) × (Nat → Nat → Int32) × (Nat → Nat → Int64)) => IV T L K u.1 ∧ EV L K u.2.2.1 ∧ FI [(9, 1), (9, 2)] K I u.1 ∧ (True)) (fun u t => Ex G (va_A (WC cy L K R I J E B) sz) (WC cy L K R u.1 u.2.1 u.2.2.1 u.2.2.2) t) (va_A (WC cy L K R I J E B) sz)) 0 0 (va_A (WC cy L K R I J E B) sz) := by
  have h_deal : deal ∈ L ∧ K deal = 9 := ⟨h_deal1, h_deal2⟩
  refine Met.ofW (cc := cX1_pick) (maxL := 5) (ret := none) (by decide) rfl ?_
  intro p e s m args below meth c s₁ B9 hml hv9
  obtain ⟨rfl, hsz, hP, hK, hD0, hN⟩ := hv9
  have hx := B9.exec
  have hb := B9.bytes
  have hr := B9.returns
  have hts := atoms_spec (ws := .code yX1_pick cX1_pick 5 none :: TBg) B9.pre
  have ht : ∀ w ∈ TBg, w.before _ s = true := fun w h => hts w (List.mem_cons_of_mem _ h)
  have hown : s.vm.findClass RX1 = some m.cls := findClass_of_methodNamed B9.named
  have hlocks := B9.notSynchronized
  subst hsz
  have hD := hD0.self (sz := s.heap.size)
  generalize hAe : va_A (WC cy L K R I J E B) s.heap.size = A at hD ⊢
  have hA : ∀ q : Nat, s.heap.size ≤ q → A q := fun q h => by rw [← hAe]; exact Or.inr h
  have hS : va_S A s.heap s.heap [] := va_S.rf
  have hl := lv_entry ([.ref deal, .int n, .int n2, .int n3]) (n := 5) (Nat.le_of_ble_eq_true rfl)
  rw [lg_entry_eq]
  generalize (lg_sl ([.ref deal, .int n, .int n2, .int n3]) ++ List.replicate (5 - (lg_sl ([.ref deal, .int n, .int n2, .int n3])).length) Slot.unset).toArray = ls at hl ⊢
  have hl : lv_has ls 5 [(0, .ref deal), (1, .int n), (2, .int n2), (3, .int n3)] := hl
  have z0 : (0 : Int32).toInt = 0 := by decide
  have z1 : (1 : Int32).toInt = 1 := by decide
  have z2 : (14 : Int32).toInt = 14 := by decide
  have hC_0 : FI [(9, 1), (9, 2)] K I I := FI.rf
  refine lv_iload_n hx hb dX1_pick_0 rfl (lv_at hl 3 rfl) ?_
  refine lv_iload_n hx hb dX1_pick_1 rfl (lv_at hl 1 rfl) ?_
  refine lv_iadd hx hb dX1_pick_2 ?_
  refine lv_topi (fun v_1 ev_1 => ?_)
  refine lv_aload_n hx hb dX1_pick_3 rfl (lv_at hl 0 rfl) ?_
  refine cg_9_2_1 hx hb ht hown hK hN hP h_deal.1 h_deal.2 dX1_pick_4 ?_
  refine lv_icmp_gt (tgt := 11) hx hb dX1_pick_7 (by decide) (fun c_2 => ?_) (fun c_2 => ?_)
  · have q_3 : (I deal 2).toInt < v_1.toInt := (ow_lt _ _).mp c_2
    refine lv_iload_n hx hb dX1_pick_11 rfl (lv_at hl 1 rfl) ?_
    refine lv_iconst (v := 1) hx hb dX1_pick_12 (by decide) ?_
    refine lv_icmp_lt (tgt := 25) hx hb dX1_pick_13 (by decide) (fun c_4 => ?_) (fun c_4 => ?_)
    · have q_5 : n.toInt < (1 : Int32).toInt := (ow_lt _ _).mp c_4
      refine lv_aload_n hx hb dX1_pick_25 rfl (lv_at hl 0 rfl) ?_
      refine lv_iload_n hx hb dX1_pick_26 rfl (lv_at hl 2 rfl) ?_
      refine cp_9_1_1 hx hb ht hown hK hN hP hD hS h_deal.1 h_deal.2 dX1_pick_27 (fun H locs hP hD hS => ?_)
      replace hI := IV.up hI h_deal.2 1 (ow_any n2)
      have f_6 : FI [(9, 1)] K I (va_up I deal (va_up (I deal) 1 n2)) := FI.up h_deal.2 1 n2
      have e_7 : (va_up I deal (va_up (I deal) 1 n2)) deal 1 = n2 := FI.at I deal 1 n2
      replace hC_0 := FI.tr hC_0 f_6 (by decide)
      generalize (va_up I deal (va_up (I deal) 1 n2)) = I_8 at hP hD hI f_6 e_7 hC_0
      refine lv_aload_n hx hb dX1_pick_30 rfl (lv_at hl 0 rfl) ?_
      refine lv_iload_n hx hb dX1_pick_31 rfl (lv_at hl 3 rfl) ?_
      refine cp_9_2_1 hx hb ht hown hK hN hP hD hS h_deal.1 h_deal.2 dX1_pick_32 (fun H locs hP hD hS => ?_)
      replace hI := IV.up hI h_deal.2 2 (ow_any n3)
      have f_9 : FI [(9, 2)] K I_8 (va_up I_8 deal (va_up (I_8 deal) 2 n3)) := FI.up h_deal.2 2 n3
      have e_10 : (va_up I_8 deal (va_up (I_8 deal) 2 n3)) deal 2 = n3 := FI.at I_8 deal 2 n3
      replace hC_0 := FI.tr hC_0 f_9 (by decide)
      generalize (va_up I_8 deal (va_up (I_8 deal) 2 n3)) = I_11 at hP hD hI f_9 e_10 hC_0
      refine W.widen (k := 0) (n := 0) (Nat.le_of_ble_eq_true rfl) (Nat.le_of_ble_eq_true rfl) ?_
      exact W.vret hx hb hr (fun t ht9 hW => ⟨⟨(I_11, J, E, B), rfl, ⟨hI, hE, hC_0, trivial⟩, ⟨by rw [ht9]; exact hP, hD⟩⟩, hS.F ht9⟩) hS.2.2 dX1_pick_35
    · have q_12 : (1 : Int32).toInt ≤ n.toInt := by have := (not_congr (ow_lt _ _)).mp c_4; omega
      refine lv_iload_n hx hb dX1_pick_16 rfl (lv_at hl 1 rfl) ?_
      refine lv_aload_n hx hb dX1_pick_17 rfl (lv_at hl 0 rfl) ?_
      refine cg_9_0_1 hx hb ht hown hK hN hP h_deal.1 h_deal.2 dX1_pick_18 ?_
      have hm_13 : (R deal 0) ∈ L ∧ K (R deal 0) = 39 := RT.o hRT h_deal.1 h_deal.2 0 (by decide)
      refine cn_39 hx hb hK hP hm_13.1 hm_13.2 dX1_pick_21 ?_
      refine lv_icmp_le (tgt := 36) hx hb dX1_pick_22 (by decide) (fun c_14 => ?_) (fun c_14 => ?_)
      · have q_15 : n.toInt ≤ (14 : Int32).toInt := (ow_le _ _).mp c_14
        refine lv_iload_n hx hb dX1_pick_36 rfl (lv_at hl 1 rfl) ?_
        refine lv_iconst (v := 1) hx hb dX1_pick_37 (by decide) ?_
        refine lv_isub hx hb dX1_pick_38 ?_
        refine lv_topi (fun v_16 ev_16 => ?_)
        have q_17 : v_16.toInt = n.toInt - (1 : Int32).toInt := ow_sub ev_16 (by omega) (by omega)
        refine lv_istore (lv' := [(4, .int v_16), (0, .ref deal), (1, .int n), (2, .int n2), (3, .int n3)]) hx hb dX1_pick_39 hl (by decide) rfl (fun ls hl => ?_)
        refine lv_aload_n hx hb dX1_pick_41 rfl (lv_at hl 1 rfl) ?_
        refine lv_iload hx hb dX1_pick_42 (lv_at hl 0 rfl) ?_
        refine lv_iload_n hx hb dX1_pick_44 rfl (lv_at hl 3 rfl) ?_
        refine lv_iload_n hx hb dX1_pick_45 rfl (lv_at hl 4 rfl) ?_
        have hFc := fr_free hD hS hA
        refine va_callv (va_runS (As := [.ref deal, .int v_16, .int n2, .int n3]) (rest := []) ⟨hx, hb, hml, hown, ht⟩ (c_pick1 l G cy _ L K R T I E J B deal v_16 n2 n3 hRT hI hE h_deal.1 h_deal.2 (by omega)) (va_cwS 4 ht (gs k_492 k_493 k_494 k_491) rfl rfl rfl (by decide +kernel) ⟨Nat.le_of_ble_eq_true rfl, Nat.le_of_ble_eq_true rfl⟩) ⟨En.blind, fun U hU hW => ⟨rfl, En.of hU hW hP hK hD hN⟩⟩ rfl rfl hl.1 rfl (lv_room (Nat.le_of_ble_eq_true rfl)) dX1_pick_46 ⟨Nat.le_of_ble_eq_true rfl, Nat.le_of_ble_eq_true rfl⟩) hS (fun q _ h => hFc q h) hFc (fun u_18 t9 H locs ht9 hvm hw hB hz1 hk1 hS => ?_)
        obtain ⟨I18, J18, E18, B18⟩ := u_18
        obtain ⟨hP1, hD1⟩ := hB
        rw [ht9] at hP1
        clear hI hE
        obtain ⟨hI, hE, xu_18I, wu_18⟩ := hw
        dsimp only at hI hE xu_18I wu_18
        have hP : va_P G vwCl (WC cy L K R I18 J18 E18 B18) H := hP1
        have hD : va_D A (WC cy L K R I18 J18 E18 B18) := hD1.weaken (fun _ _ _ h => hFc _ h)
        clear hFc hk1 hz1 hP1 hD1
        replace hC_0 := FI.tr hC_0 xu_18I (by decide)
        refine lv_aload_n hx hb dX1_pick_49 rfl (lv_at hl 1 rfl) ?_
        refine cg_9_0_1 hx hb ht hown hK hN hP h_deal.1 h_deal.2 dX1_pick_50 ?_
        refine lv_iload hx hb dX1_pick_53 (lv_at hl 0 rfl) ?_
        have q_19 : vp_in v_16 14 := vp_in_iff.mpr ⟨by omega, by omega⟩
        refine cl_39 hx hb hK hP hm_13.1 hm_13.2 q_19 dX1_pick_55 ?_
        refine lv_topi (fun v_20 ev_20 => ?_)
        refine lv_iload_n hx hb dX1_pick_56 rfl (lv_at hl 3 rfl) ?_
        refine lv_iand hx hb dX1_pick_57 ?_
        refine lv_topi (fun v_21 ev_21 => ?_)
        refine lv_if_ne (tgt := 76) hx hb dX1_pick_58 (by decide) (fun c_22 => ?_) (fun c_22 => ?_)
        · have q_23 : ¬ v_21.toInt = (0 : Int32).toInt := by have := (not_congr (ow_eq _ _)).mp c_22; omega
          refine W.widen (k := 0) (n := 0) (Nat.le_of_ble_eq_true rfl) (Nat.le_of_ble_eq_true rfl) ?_
          exact W.vret hx hb hr (fun t ht9 hW => ⟨⟨(I18, J18, E18, B18), rfl, ⟨hI, hE, hC_0, trivial⟩, ⟨by rw [ht9]; exact hP, hD⟩⟩, hS.F ht9⟩) hS.2.2 dX1_pick_76
        · have q_24 : v_21.toInt = (0 : Int32).toInt := (ow_eq _ _).mp c_22
          refine lv_aload_n hx hb dX1_pick_61 rfl (lv_at hl 1 rfl) ?_
          refine lv_iload hx hb dX1_pick_62 (lv_at hl 0 rfl) ?_
          refine lv_iload_n hx hb dX1_pick_64 rfl (lv_at hl 3 rfl) ?_
          refine lv_iconst (v := 1) hx hb dX1_pick_65 (by decide) ?_
          refine lv_iload hx hb dX1_pick_66 (lv_at hl 0 rfl) ?_
          refine lv_ishl hx hb dX1_pick_68 ?_
          refine lv_topi (fun v_25 ev_25 => ?_)
          refine lv_ior hx hb dX1_pick_69 ?_
          refine lv_topi (fun v_26 ev_26 => ?_)
          refine lv_iload_n hx hb dX1_pick_70 rfl (lv_at hl 4 rfl) ?_
          refine lv_iconst (v := 1) hx hb dX1_pick_71 (by decide) ?_
          refine lv_iadd hx hb dX1_pick_72 ?_
          refine lv_topi (fun v_27 ev_27 => ?_)
          have hFc := fr_free hD hS hA
          refine va_callv (va_runS (As := [.ref deal, .int v_16, .int v_26, .int v_27]) (rest := []) ⟨hx, hb, hml, hown, ht⟩ (c_pick1 l G cy _ L K R T I18 E18 J18 B18 deal v_16 v_26 v_27 hRT hI hE h_deal.1 h_deal.2 (by omega)) (va_cwS 4 ht (gs k_492 k_493 k_494 k_491) rfl rfl rfl (by decide +kernel) ⟨Nat.le_of_ble_eq_true rfl, Nat.le_of_ble_eq_true rfl⟩) ⟨En.blind, fun U hU hW => ⟨rfl, En.of hU hW hP hK hD hN⟩⟩ rfl rfl hl.1 rfl (lv_room (Nat.le_of_ble_eq_true rfl)) dX1_pick_73 ⟨Nat.le_of_ble_eq_true rfl, Nat.le_of_ble_eq_true rfl⟩) hS (fun q _ h => hFc q h) hFc (fun u_28 t9 H locs ht9 hvm hw hB hz1 hk1 hS => ?_)
          obtain ⟨I28, J28, E28, B28⟩ := u_28
          obtain ⟨hP1, hD1⟩ := hB
          rw [ht9] at hP1
          clear hI hE
          obtain ⟨hI, hE, xu_28I, wu_28⟩ := hw
          dsimp only at hI hE xu_28I wu_28
          have hP : va_P G vwCl (WC cy L K R I28 J28 E28 B28) H := hP1
          have hD : va_D A (WC cy L K R I28 J28 E28 B28) := hD1.weaken (fun _ _ _ h => hFc _ h)
          clear hFc hk1 hz1 hP1 hD1
          replace hC_0 := FI.tr hC_0 xu_28I (by decide)
          refine W.widen (k := 0) (n := 0) (Nat.le_of_ble_eq_true rfl) (Nat.le_of_ble_eq_true rfl) ?_
          exact W.vret hx hb hr (fun t ht9 hW => ⟨⟨(I28, J28, E28, B28), rfl, ⟨hI, hE, hC_0, trivial⟩, ⟨by rw [ht9]; exact hP, hD⟩⟩, hS.F ht9⟩) hS.2.2 dX1_pick_76
      · have q_29 : (14 : Int32).toInt < n.toInt := by have := (not_congr (ow_le _ _)).mp c_14; omega
        exfalso
        omega
  · have q_30 : v_1.toInt ≤ (I deal 2).toInt := by have := (not_congr (ow_lt _ _)).mp c_2; omega
    refine W.widen (k := 0) (n := 0) (Nat.le_of_ble_eq_true rfl) (Nat.le_of_ble_eq_true rfl) ?_
    exact W.vret hx hb hr (fun t ht9 hW => ⟨⟨(I, J, E, B), rfl, ⟨hI, hE, hC_0, trivial⟩, ⟨by rw [ht9]; exact hP, hD⟩⟩, hS.F ht9⟩) hS.2.2 dX1_pick_10
set_option maxHeartbeats 4000000 in
set_option maxRecDepth 100000 in
theorem c_pick3 (l : Launch) (G : va_G) (cy : Nat → ClassId) (sz : Nat) (L : List Nat) (K : Nat → Nat) (R : Nat → Nat → Nat) (T : Int) (I E : Nat → Nat → Int32) (J B : Nat → Nat → Int64) (deal : Nat) (n : Int32) (n2 : Int32) (n3 : Int32) (hRT : RT L K R) (hI : IV T L K I) (hE : EV L K E) (h_deal1 : deal ∈ L) (h_deal2 : K deal = 9) (h_n : -2147483648 ≤ n.toInt ∧ n.toInt ≤ 3) : Met l yX1_pick (.code yX1_pick cX1_pick 5 none :: TBg) ({ frames := 4, cells := 0, slots := 0, locals := 256 }) (va_Pc [.ref deal, .int n, .int n2, .int n3] (En G cy (WC cy L K R I J E B) sz)) (va_Qv (fun (u : (Nat → Nat → Int32) × (Nat → Nat → Int64) × (Nat → Nat → Int32) × (Nat → Nat → Int64)) => IV T L K u.1 ∧ EV L K u.2.2.1 ∧ FI [(9, 1), (9, 2)] K I u.1 ∧ (True)) (fun u t => Ex G (va_A (WC cy L K R I J E B) sz) (WC cy L K R u.1 u.2.1 u.2.2.1 u.2.2.2) t) (va_A (WC cy L K R I J E B) sz)) 0 0 (va_A (WC cy L K R I J E B) sz) := by
  have h_deal : deal ∈ L ∧ K deal = 9 := ⟨h_deal1, h_deal2⟩
  refine Met.ofW (cc := cX1_pick) (maxL := 5) (ret := none) (by decide) rfl ?_
  intro p e s m args below meth c s₁ B9 hml hv9
  obtain ⟨rfl, hsz, hP, hK, hD0, hN⟩ := hv9
  have hx := B9.exec
  have hb := B9.bytes
  have hr := B9.returns
  have hts := atoms_spec (ws := .code yX1_pick cX1_pick 5 none :: TBg) B9.pre
  have ht : ∀ w ∈ TBg, w.before _ s = true := fun w h => hts w (List.mem_cons_of_mem _ h)
  have hown : s.vm.findClass RX1 = some m.cls := findClass_of_methodNamed B9.named
  have hlocks := B9.notSynchronized
  subst hsz
  have hD := hD0.self (sz := s.heap.size)
  generalize hAe : va_A (WC cy L K R I J E B) s.heap.size = A at hD ⊢
  have hA : ∀ q : Nat, s.heap.size ≤ q → A q := fun q h => by rw [← hAe]; exact Or.inr h
  have hS : va_S A s.heap s.heap [] := va_S.rf
  have hl := lv_entry ([.ref deal, .int n, .int n2, .int n3]) (n := 5) (Nat.le_of_ble_eq_true rfl)
  rw [lg_entry_eq]
  generalize (lg_sl ([.ref deal, .int n, .int n2, .int n3]) ++ List.replicate (5 - (lg_sl ([.ref deal, .int n, .int n2, .int n3])).length) Slot.unset).toArray = ls at hl ⊢
  have hl : lv_has ls 5 [(0, .ref deal), (1, .int n), (2, .int n2), (3, .int n3)] := hl
  have z0 : (0 : Int32).toInt = 0 := by decide
  have z1 : (1 : Int32).toInt = 1 := by decide
  have z2 : (14 : Int32).toInt = 14 := by decide
  have hC_0 : FI [(9, 1), (9, 2)] K I I := FI.rf
  refine lv_iload_n hx hb dX1_pick_0 rfl (lv_at hl 3 rfl) ?_
  refine lv_iload_n hx hb dX1_pick_1 rfl (lv_at hl 1 rfl) ?_
  refine lv_iadd hx hb dX1_pick_2 ?_
  refine lv_topi (fun v_1 ev_1 => ?_)
  refine lv_aload_n hx hb dX1_pick_3 rfl (lv_at hl 0 rfl) ?_
  refine cg_9_2_1 hx hb ht hown hK hN hP h_deal.1 h_deal.2 dX1_pick_4 ?_
  refine lv_icmp_gt (tgt := 11) hx hb dX1_pick_7 (by decide) (fun c_2 => ?_) (fun c_2 => ?_)
  · have q_3 : (I deal 2).toInt < v_1.toInt := (ow_lt _ _).mp c_2
    refine lv_iload_n hx hb dX1_pick_11 rfl (lv_at hl 1 rfl) ?_
    refine lv_iconst (v := 1) hx hb dX1_pick_12 (by decide) ?_
    refine lv_icmp_lt (tgt := 25) hx hb dX1_pick_13 (by decide) (fun c_4 => ?_) (fun c_4 => ?_)
    · have q_5 : n.toInt < (1 : Int32).toInt := (ow_lt _ _).mp c_4
      refine lv_aload_n hx hb dX1_pick_25 rfl (lv_at hl 0 rfl) ?_
      refine lv_iload_n hx hb dX1_pick_26 rfl (lv_at hl 2 rfl) ?_
      refine cp_9_1_1 hx hb ht hown hK hN hP hD hS h_deal.1 h_deal.2 dX1_pick_27 (fun H locs hP hD hS => ?_)
      replace hI := IV.up hI h_deal.2 1 (ow_any n2)
      have f_6 : FI [(9, 1)] K I (va_up I deal (va_up (I deal) 1 n2)) := FI.up h_deal.2 1 n2
      have e_7 : (va_up I deal (va_up (I deal) 1 n2)) deal 1 = n2 := FI.at I deal 1 n2
      replace hC_0 := FI.tr hC_0 f_6 (by decide)
      generalize (va_up I deal (va_up (I deal) 1 n2)) = I_8 at hP hD hI f_6 e_7 hC_0
      refine lv_aload_n hx hb dX1_pick_30 rfl (lv_at hl 0 rfl) ?_
      refine lv_iload_n hx hb dX1_pick_31 rfl (lv_at hl 3 rfl) ?_
      refine cp_9_2_1 hx hb ht hown hK hN hP hD hS h_deal.1 h_deal.2 dX1_pick_32 (fun H locs hP hD hS => ?_)
      replace hI := IV.up hI h_deal.2 2 (ow_any n3)
      have f_9 : FI [(9, 2)] K I_8 (va_up I_8 deal (va_up (I_8 deal) 2 n3)) := FI.up h_deal.2 2 n3
      have e_10 : (va_up I_8 deal (va_up (I_8 deal) 2 n3)) deal 2 = n3 := FI.at I_8 deal 2 n3
      replace hC_0 := FI.tr hC_0 f_9 (by decide)
      generalize (va_up I_8 deal (va_up (I_8 deal) 2 n3)) = I_11 at hP hD hI f_9 e_10 hC_0
      refine W.widen (k := 0) (n := 0) (Nat.le_of_ble_eq_true rfl) (Nat.le_of_ble_eq_true rfl) ?_
      exact W.vret hx hb hr (fun t ht9 hW => ⟨⟨(I_11, J, E, B), rfl, ⟨hI, hE, hC_0, trivial⟩, ⟨by rw [ht9]; exact hP, hD⟩⟩, hS.F ht9⟩) hS.2.2 dX1_pick_35
    · have q_12 : (1 : Int32).toInt ≤ n.toInt := by have := (not_congr (ow_lt _ _)).mp c_4; omega
      refine lv_iload_n hx hb dX1_pick_16 rfl (lv_at hl 1 rfl) ?_
      refine lv_aload_n hx hb dX1_pick_17 rfl (lv_at hl 0 rfl) ?_
      refine cg_9_0_1 hx hb ht hown hK hN hP h_deal.1 h_deal.2 dX1_pick_18 ?_
      have hm_13 : (R deal 0) ∈ L ∧ K (R deal 0) = 39 := RT.o hRT h_deal.1 h_deal.2 0 (by decide)
      refine cn_39 hx hb hK hP hm_13.1 hm_13.2 dX1_pick_21 ?_
      refine lv_icmp_le (tgt := 36) hx hb dX1_pick_22 (by decide) (fun c_14 => ?_) (fun c_14 => ?_)
      · have q_15 : n.toInt ≤ (14 : Int32).toInt := (ow_le _ _).mp c_14
        refine lv_iload_n hx hb dX1_pick_36 rfl (lv_at hl 1 rfl) ?_
        refine lv_iconst (v := 1) hx hb dX1_pick_37 (by decide) ?_
        refine lv_isub hx hb dX1_pick_38 ?_
        refine lv_topi (fun v_16 ev_16 => ?_)
        have q_17 : v_16.toInt = n.toInt - (1 : Int32).toInt := ow_sub ev_16 (by omega) (by omega)
        refine lv_istore (lv' := [(4, .int v_16), (0, .ref deal), (1, .int n), (2, .int n2), (3, .int n3)]) hx hb dX1_pick_39 hl (by decide) rfl (fun ls hl => ?_)
        refine lv_aload_n hx hb dX1_pick_41 rfl (lv_at hl 1 rfl) ?_
        refine lv_iload hx hb dX1_pick_42 (lv_at hl 0 rfl) ?_
        refine lv_iload_n hx hb dX1_pick_44 rfl (lv_at hl 3 rfl) ?_
        refine lv_iload_n hx hb dX1_pick_45 rfl (lv_at hl 4 rfl) ?_
        have hFc := fr_free hD hS hA
        refine va_callv (va_runS (As := [.ref deal, .int v_16, .int n2, .int n3]) (rest := []) ⟨hx, hb, hml, hown, ht⟩ (c_pick2 l G cy _ L K R T I E J B deal v_16 n2 n3 hRT hI hE h_deal.1 h_deal.2 (by omega)) (va_cwS 4 ht (gs k_492 k_493 k_494 k_491) rfl rfl rfl (by decide +kernel) ⟨Nat.le_of_ble_eq_true rfl, Nat.le_of_ble_eq_true rfl⟩) ⟨En.blind, fun U hU hW => ⟨rfl, En.of hU hW hP hK hD hN⟩⟩ rfl rfl hl.1 rfl (lv_room (Nat.le_of_ble_eq_true rfl)) dX1_pick_46 ⟨Nat.le_of_ble_eq_true rfl, Nat.le_of_ble_eq_true rfl⟩) hS (fun q _ h => hFc q h) hFc (fun u_18 t9 H locs ht9 hvm hw hB hz1 hk1 hS => ?_)
        obtain ⟨I18, J18, E18, B18⟩ := u_18
        obtain ⟨hP1, hD1⟩ := hB
        rw [ht9] at hP1
        clear hI hE
        obtain ⟨hI, hE, xu_18I, wu_18⟩ := hw
        dsimp only at hI hE xu_18I wu_18
        have hP : va_P G vwCl (WC cy L K R I18 J18 E18 B18) H := hP1
        have hD : va_D A (WC cy L K R I18 J18 E18 B18) := hD1.weaken (fun _ _ _ h => hFc _ h)
        clear hFc hk1 hz1 hP1 hD1
        replace hC_0 := FI.tr hC_0 xu_18I (by decide)
        refine lv_aload_n hx hb dX1_pick_49 rfl (lv_at hl 1 rfl) ?_
        refine cg_9_0_1 hx hb ht hown hK hN hP h_deal.1 h_deal.2 dX1_pick_50 ?_
        refine lv_iload hx hb dX1_pick_53 (lv_at hl 0 rfl) ?_
        have q_19 : vp_in v_16 14 := vp_in_iff.mpr ⟨by omega, by omega⟩
        refine cl_39 hx hb hK hP hm_13.1 hm_13.2 q_19 dX1_pick_55 ?_
        refine lv_topi (fun v_20 ev_20 => ?_)
        refine lv_iload_n hx hb dX1_pick_56 rfl (lv_at hl 3 rfl) ?_
        refine lv_iand hx hb dX1_pick_57 ?_
        refine lv_topi (fun v_21 ev_21 => ?_)
        refine lv_if_ne (tgt := 76) hx hb dX1_pick_58 (by decide) (fun c_22 => ?_) (fun c_22 => ?_)
        · have q_23 : ¬ v_21.toInt = (0 : Int32).toInt := by have := (not_congr (ow_eq _ _)).mp c_22; omega
          refine W.widen (k := 0) (n := 0) (Nat.le_of_ble_eq_true rfl) (Nat.le_of_ble_eq_true rfl) ?_
          exact W.vret hx hb hr (fun t ht9 hW => ⟨⟨(I18, J18, E18, B18), rfl, ⟨hI, hE, hC_0, trivial⟩, ⟨by rw [ht9]; exact hP, hD⟩⟩, hS.F ht9⟩) hS.2.2 dX1_pick_76
        · have q_24 : v_21.toInt = (0 : Int32).toInt := (ow_eq _ _).mp c_22
          refine lv_aload_n hx hb dX1_pick_61 rfl (lv_at hl 1 rfl) ?_
          refine lv_iload hx hb dX1_pick_62 (lv_at hl 0 rfl) ?_
          refine lv_iload_n hx hb dX1_pick_64 rfl (lv_at hl 3 rfl) ?_
          refine lv_iconst (v := 1) hx hb dX1_pick_65 (by decide) ?_
          refine lv_iload hx hb dX1_pick_66 (lv_at hl 0 rfl) ?_
          refine lv_ishl hx hb dX1_pick_68 ?_
          refine lv_topi (fun v_25 ev_25 => ?_)
          refine lv_ior hx hb dX1_pick_69 ?_
          refine lv_topi (fun v_26 ev_26 => ?_)
          refine lv_iload_n hx hb dX1_pick_70 rfl (lv_at hl 4 rfl) ?_
          refine lv_iconst (v := 1) hx hb dX1_pick_71 (by decide) ?_
          refine lv_iadd hx hb dX1_pick_72 ?_
          refine lv_topi (fun v_27 ev_27 => ?_)
          have hFc := fr_free hD hS hA
          refine va_callv (va_runS (As := [.ref deal, .int v_16, .int v_26, .int v_27]) (rest := []) ⟨hx, hb, hml, hown, ht⟩ (c_pick2 l G cy _ L K R T I18 E18 J18 B18 deal v_16 v_26 v_27 hRT hI hE h_deal.1 h_deal.2 (by omega)) (va_cwS 4 ht (gs k_492 k_493 k_494 k_491) rfl rfl rfl (by decide +kernel) ⟨Nat.le_of_ble_eq_true rfl, Nat.le_of_ble_eq_true rfl⟩) ⟨En.blind, fun U hU hW => ⟨rfl, En.of hU hW hP hK hD hN⟩⟩ rfl rfl hl.1 rfl (lv_room (Nat.le_of_ble_eq_true rfl)) dX1_pick_73 ⟨Nat.le_of_ble_eq_true rfl, Nat.le_of_ble_eq_true rfl⟩) hS (fun q _ h => hFc q h) hFc (fun u_28 t9 H locs ht9 hvm hw hB hz1 hk1 hS => ?_)
          obtain ⟨I28, J28, E28, B28⟩ := u_28
          obtain ⟨hP1, hD1⟩ := hB
          rw [ht9] at hP1
          clear hI hE
          obtain ⟨hI, hE, xu_28I, wu_28⟩ := hw
          dsimp only at hI hE xu_28I wu_28
          have hP : va_P G vwCl (WC cy L K R I28 J28 E28 B28) H := hP1
          have hD : va_D A (WC cy L K R I28 J28 E28 B28) := hD1.weaken (fun _ _ _ h => hFc _ h)
          clear hFc hk1 hz1 hP1 hD1
          replace hC_0 := FI.tr hC_0 xu_28I (by decide)
          refine W.widen (k := 0) (n := 0) (Nat.le_of_ble_eq_true rfl) (Nat.le_of_ble_eq_true rfl) ?_
          exact W.vret hx hb hr (fun t ht9 hW => ⟨⟨(I28, J28, E28, B28), rfl, ⟨hI, hE, hC_0, trivial⟩, ⟨by rw [ht9]; exact hP, hD⟩⟩, hS.F ht9⟩) hS.2.2 dX1_pick_76
      · have q_29 : (14 : Int32).toInt < n.toInt := by have := (not_congr (ow_le _ _)).mp c_14; omega
        exfalso
        omega
  · have q_30 : v_1.toInt ≤ (I deal 2).toInt := by have := (not_congr (ow_lt _ _)).mp c_2; omega
    refine W.widen (k := 0) (n := 0) (Nat.le_of_ble_eq_true rfl) (Nat.le_of_ble_eq_true rfl) ?_
    exact W.vret hx hb hr (fun t ht9 hW => ⟨⟨(I, J, E, B), rfl, ⟨hI, hE, hC_0, trivial⟩, ⟨by rw [ht9]; exact hP, hD⟩⟩, hS.F ht9⟩) hS.2.2 dX1_pick_10
set_option maxHeartbeats 4000000 in
set_option maxRecDepth 100000 in
theorem c_pick4 (l : Launch) (G : va_G) (cy : Nat → ClassId) (sz : Nat) (L : List Nat) (K : Nat → Nat) (R : Nat → Nat → Nat) (T : Int) (I E : Nat → Nat → Int32) (J B : Nat → Nat → Int64) (deal : Nat) (n : Int32) (n2 : Int32) (n3 : Int32) (hRT : RT L K R) (hI : IV T L K I) (hE : EV L K E) (h_deal1 : deal ∈ L) (h_deal2 : K deal = 9) (h_n : -2147483648 ≤ n.toInt ∧ n.toInt ≤ 4) : Met l yX1_pick (.code yX1_pick cX1_pick 5 none :: TBg) ({ frames := 5, cells := 0, slots := 0, locals := 320 }) (va_Pc [.ref deal, .int n, .int n2, .int n3] (En G cy (WC cy L K R I J E B) sz)) (va_Qv (fun (u : (Nat → Nat → Int32) × (Nat → Nat → Int64) × (Nat → Nat → Int32) × (Nat → Nat → Int64)) => IV T L K u.1 ∧ EV L K u.2.2.1 ∧ FI [(9, 1), (9, 2)] K I u.1 ∧ (True)) (fun u t => Ex G (va_A (WC cy L K R I J E B) sz) (WC cy L K R u.1 u.2.1 u.2.2.1 u.2.2.2) t) (va_A (WC cy L K R I J E B) sz)) 0 0 (va_A (WC cy L K R I J E B) sz) := by
  have h_deal : deal ∈ L ∧ K deal = 9 := ⟨h_deal1, h_deal2⟩
  refine Met.ofW (cc := cX1_pick) (maxL := 5) (ret := none) (by decide) rfl ?_
  intro p e s m args below meth c s₁ B9 hml hv9
  obtain ⟨rfl, hsz, hP, hK, hD0, hN⟩ := hv9
  have hx := B9.exec
  have hb := B9.bytes
  have hr := B9.returns
  have hts := atoms_spec (ws := .code yX1_pick cX1_pick 5 none :: TBg) B9.pre
  have ht : ∀ w ∈ TBg, w.before _ s = true := fun w h => hts w (List.mem_cons_of_mem _ h)
  have hown : s.vm.findClass RX1 = some m.cls := findClass_of_methodNamed B9.named
  have hlocks := B9.notSynchronized
  subst hsz
  have hD := hD0.self (sz := s.heap.size)
  generalize hAe : va_A (WC cy L K R I J E B) s.heap.size = A at hD ⊢
  have hA : ∀ q : Nat, s.heap.size ≤ q → A q := fun q h => by rw [← hAe]; exact Or.inr h
  have hS : va_S A s.heap s.heap [] := va_S.rf
  have hl := lv_entry ([.ref deal, .int n, .int n2, .int n3]) (n := 5) (Nat.le_of_ble_eq_true rfl)
  rw [lg_entry_eq]
  generalize (lg_sl ([.ref deal, .int n, .int n2, .int n3]) ++ List.replicate (5 - (lg_sl ([.ref deal, .int n, .int n2, .int n3])).length) Slot.unset).toArray = ls at hl ⊢
  have hl : lv_has ls 5 [(0, .ref deal), (1, .int n), (2, .int n2), (3, .int n3)] := hl
  have z0 : (0 : Int32).toInt = 0 := by decide
  have z1 : (1 : Int32).toInt = 1 := by decide
  have z2 : (14 : Int32).toInt = 14 := by decide
  have hC_0 : FI [(9, 1), (9, 2)] K I I := FI.rf
  refine lv_iload_n hx hb dX1_pick_0 rfl (lv_at hl 3 rfl) ?_
  refine lv_iload_n hx hb dX1_pick_1 rfl (lv_at hl 1 rfl) ?_
  refine lv_iadd hx hb dX1_pick_2 ?_
  refine lv_topi (fun v_1 ev_1 => ?_)
  refine lv_aload_n hx hb dX1_pick_3 rfl (lv_at hl 0 rfl) ?_
  refine cg_9_2_1 hx hb ht hown hK hN hP h_deal.1 h_deal.2 dX1_pick_4 ?_
  refine lv_icmp_gt (tgt := 11) hx hb dX1_pick_7 (by decide) (fun c_2 => ?_) (fun c_2 => ?_)
  · have q_3 : (I deal 2).toInt < v_1.toInt := (ow_lt _ _).mp c_2
    refine lv_iload_n hx hb dX1_pick_11 rfl (lv_at hl 1 rfl) ?_
    refine lv_iconst (v := 1) hx hb dX1_pick_12 (by decide) ?_
    refine lv_icmp_lt (tgt := 25) hx hb dX1_pick_13 (by decide) (fun c_4 => ?_) (fun c_4 => ?_)
    · have q_5 : n.toInt < (1 : Int32).toInt := (ow_lt _ _).mp c_4
      refine lv_aload_n hx hb dX1_pick_25 rfl (lv_at hl 0 rfl) ?_
      refine lv_iload_n hx hb dX1_pick_26 rfl (lv_at hl 2 rfl) ?_
      refine cp_9_1_1 hx hb ht hown hK hN hP hD hS h_deal.1 h_deal.2 dX1_pick_27 (fun H locs hP hD hS => ?_)
      replace hI := IV.up hI h_deal.2 1 (ow_any n2)
      have f_6 : FI [(9, 1)] K I (va_up I deal (va_up (I deal) 1 n2)) := FI.up h_deal.2 1 n2
      have e_7 : (va_up I deal (va_up (I deal) 1 n2)) deal 1 = n2 := FI.at I deal 1 n2
      replace hC_0 := FI.tr hC_0 f_6 (by decide)
      generalize (va_up I deal (va_up (I deal) 1 n2)) = I_8 at hP hD hI f_6 e_7 hC_0
      refine lv_aload_n hx hb dX1_pick_30 rfl (lv_at hl 0 rfl) ?_
      refine lv_iload_n hx hb dX1_pick_31 rfl (lv_at hl 3 rfl) ?_
      refine cp_9_2_1 hx hb ht hown hK hN hP hD hS h_deal.1 h_deal.2 dX1_pick_32 (fun H locs hP hD hS => ?_)
      replace hI := IV.up hI h_deal.2 2 (ow_any n3)
      have f_9 : FI [(9, 2)] K I_8 (va_up I_8 deal (va_up (I_8 deal) 2 n3)) := FI.up h_deal.2 2 n3
      have e_10 : (va_up I_8 deal (va_up (I_8 deal) 2 n3)) deal 2 = n3 := FI.at I_8 deal 2 n3
      replace hC_0 := FI.tr hC_0 f_9 (by decide)
      generalize (va_up I_8 deal (va_up (I_8 deal) 2 n3)) = I_11 at hP hD hI f_9 e_10 hC_0
      refine W.widen (k := 0) (n := 0) (Nat.le_of_ble_eq_true rfl) (Nat.le_of_ble_eq_true rfl) ?_
      exact W.vret hx hb hr (fun t ht9 hW => ⟨⟨(I_11, J, E, B), rfl, ⟨hI, hE, hC_0, trivial⟩, ⟨by rw [ht9]; exact hP, hD⟩⟩, hS.F ht9⟩) hS.2.2 dX1_pick_35
    · have q_12 : (1 : Int32).toInt ≤ n.toInt := by have := (not_congr (ow_lt _ _)).mp c_4; omega
      refine lv_iload_n hx hb dX1_pick_16 rfl (lv_at hl 1 rfl) ?_
      refine lv_aload_n hx hb dX1_pick_17 rfl (lv_at hl 0 rfl) ?_
      refine cg_9_0_1 hx hb ht hown hK hN hP h_deal.1 h_deal.2 dX1_pick_18 ?_
      have hm_13 : (R deal 0) ∈ L ∧ K (R deal 0) = 39 := RT.o hRT h_deal.1 h_deal.2 0 (by decide)
      refine cn_39 hx hb hK hP hm_13.1 hm_13.2 dX1_pick_21 ?_
      refine lv_icmp_le (tgt := 36) hx hb dX1_pick_22 (by decide) (fun c_14 => ?_) (fun c_14 => ?_)
      · have q_15 : n.toInt ≤ (14 : Int32).toInt := (ow_le _ _).mp c_14
        refine lv_iload_n hx hb dX1_pick_36 rfl (lv_at hl 1 rfl) ?_
        refine lv_iconst (v := 1) hx hb dX1_pick_37 (by decide) ?_
        refine lv_isub hx hb dX1_pick_38 ?_
        refine lv_topi (fun v_16 ev_16 => ?_)
        have q_17 : v_16.toInt = n.toInt - (1 : Int32).toInt := ow_sub ev_16 (by omega) (by omega)
        refine lv_istore (lv' := [(4, .int v_16), (0, .ref deal), (1, .int n), (2, .int n2), (3, .int n3)]) hx hb dX1_pick_39 hl (by decide) rfl (fun ls hl => ?_)
        refine lv_aload_n hx hb dX1_pick_41 rfl (lv_at hl 1 rfl) ?_
        refine lv_iload hx hb dX1_pick_42 (lv_at hl 0 rfl) ?_
        refine lv_iload_n hx hb dX1_pick_44 rfl (lv_at hl 3 rfl) ?_
        refine lv_iload_n hx hb dX1_pick_45 rfl (lv_at hl 4 rfl) ?_
        have hFc := fr_free hD hS hA
        refine va_callv (va_runS (As := [.ref deal, .int v_16, .int n2, .int n3]) (rest := []) ⟨hx, hb, hml, hown, ht⟩ (c_pick3 l G cy _ L K R T I E J B deal v_16 n2 n3 hRT hI hE h_deal.1 h_deal.2 (by omega)) (va_cwS 4 ht (gs k_492 k_493 k_494 k_491) rfl rfl rfl (by decide +kernel) ⟨Nat.le_of_ble_eq_true rfl, Nat.le_of_ble_eq_true rfl⟩) ⟨En.blind, fun U hU hW => ⟨rfl, En.of hU hW hP hK hD hN⟩⟩ rfl rfl hl.1 rfl (lv_room (Nat.le_of_ble_eq_true rfl)) dX1_pick_46 ⟨Nat.le_of_ble_eq_true rfl, Nat.le_of_ble_eq_true rfl⟩) hS (fun q _ h => hFc q h) hFc (fun u_18 t9 H locs ht9 hvm hw hB hz1 hk1 hS => ?_)
        obtain ⟨I18, J18, E18, B18⟩ := u_18
        obtain ⟨hP1, hD1⟩ := hB
        rw [ht9] at hP1
        clear hI hE
        obtain ⟨hI, hE, xu_18I, wu_18⟩ := hw
        dsimp only at hI hE xu_18I wu_18
        have hP : va_P G vwCl (WC cy L K R I18 J18 E18 B18) H := hP1
        have hD : va_D A (WC cy L K R I18 J18 E18 B18) := hD1.weaken (fun _ _ _ h => hFc _ h)
        clear hFc hk1 hz1 hP1 hD1
        replace hC_0 := FI.tr hC_0 xu_18I (by decide)
        refine lv_aload_n hx hb dX1_pick_49 rfl (lv_at hl 1 rfl) ?_
        refine cg_9_0_1 hx hb ht hown hK hN hP h_deal.1 h_deal.2 dX1_pick_50 ?_
        refine lv_iload hx hb dX1_pick_53 (lv_at hl 0 rfl) ?_
        have q_19 : vp_in v_16 14 := vp_in_iff.mpr ⟨by omega, by omega⟩
        refine cl_39 hx hb hK hP hm_13.1 hm_13.2 q_19 dX1_pick_55 ?_
        refine lv_topi (fun v_20 ev_20 => ?_)
        refine lv_iload_n hx hb dX1_pick_56 rfl (lv_at hl 3 rfl) ?_
        refine lv_iand hx hb dX1_pick_57 ?_
        refine lv_topi (fun v_21 ev_21 => ?_)
        refine lv_if_ne (tgt := 76) hx hb dX1_pick_58 (by decide) (fun c_22 => ?_) (fun c_22 => ?_)
        · have q_23 : ¬ v_21.toInt = (0 : Int32).toInt := by have := (not_congr (ow_eq _ _)).mp c_22; omega
          refine W.widen (k := 0) (n := 0) (Nat.le_of_ble_eq_true rfl) (Nat.le_of_ble_eq_true rfl) ?_
          exact W.vret hx hb hr (fun t ht9 hW => ⟨⟨(I18, J18, E18, B18), rfl, ⟨hI, hE, hC_0, trivial⟩, ⟨by rw [ht9]; exact hP, hD⟩⟩, hS.F ht9⟩) hS.2.2 dX1_pick_76
        · have q_24 : v_21.toInt = (0 : Int32).toInt := (ow_eq _ _).mp c_22
          refine lv_aload_n hx hb dX1_pick_61 rfl (lv_at hl 1 rfl) ?_
          refine lv_iload hx hb dX1_pick_62 (lv_at hl 0 rfl) ?_
          refine lv_iload_n hx hb dX1_pick_64 rfl (lv_at hl 3 rfl) ?_
          refine lv_iconst (v := 1) hx hb dX1_pick_65 (by decide) ?_
          refine lv_iload hx hb dX1_pick_66 (lv_at hl 0 rfl) ?_
          refine lv_ishl hx hb dX1_pick_68 ?_
          refine lv_topi (fun v_25 ev_25 => ?_)
          refine lv_ior hx hb dX1_pick_69 ?_
          refine lv_topi (fun v_26 ev_26 => ?_)
          refine lv_iload_n hx hb dX1_pick_70 rfl (lv_at hl 4 rfl) ?_
          refine lv_iconst (v := 1) hx hb dX1_pick_71 (by decide) ?_
          refine lv_iadd hx hb dX1_pick_72 ?_
          refine lv_topi (fun v_27 ev_27 => ?_)
          have hFc := fr_free hD hS hA
          refine va_callv (va_runS (As := [.ref deal, .int v_16, .int v_26, .int v_27]) (rest := []) ⟨hx, hb, hml, hown, ht⟩ (c_pick3 l G cy _ L K R T I18 E18 J18 B18 deal v_16 v_26 v_27 hRT hI hE h_deal.1 h_deal.2 (by omega)) (va_cwS 4 ht (gs k_492 k_493 k_494 k_491) rfl rfl rfl (by decide +kernel) ⟨Nat.le_of_ble_eq_true rfl, Nat.le_of_ble_eq_true rfl⟩) ⟨En.blind, fun U hU hW => ⟨rfl, En.of hU hW hP hK hD hN⟩⟩ rfl rfl hl.1 rfl (lv_room (Nat.le_of_ble_eq_true rfl)) dX1_pick_73 ⟨Nat.le_of_ble_eq_true rfl, Nat.le_of_ble_eq_true rfl⟩) hS (fun q _ h => hFc q h) hFc (fun u_28 t9 H locs ht9 hvm hw hB hz1 hk1 hS => ?_)
          obtain ⟨I28, J28, E28, B28⟩ := u_28
          obtain ⟨hP1, hD1⟩ := hB
          rw [ht9] at hP1
          clear hI hE
          obtain ⟨hI, hE, xu_28I, wu_28⟩ := hw
          dsimp only at hI hE xu_28I wu_28
          have hP : va_P G vwCl (WC cy L K R I28 J28 E28 B28) H := hP1
          have hD : va_D A (WC cy L K R I28 J28 E28 B28) := hD1.weaken (fun _ _ _ h => hFc _ h)
          clear hFc hk1 hz1 hP1 hD1
          replace hC_0 := FI.tr hC_0 xu_28I (by decide)
          refine W.widen (k := 0) (n := 0) (Nat.le_of_ble_eq_true rfl) (Nat.le_of_ble_eq_true rfl) ?_
          exact W.vret hx hb hr (fun t ht9 hW => ⟨⟨(I28, J28, E28, B28), rfl, ⟨hI, hE, hC_0, trivial⟩, ⟨by rw [ht9]; exact hP, hD⟩⟩, hS.F ht9⟩) hS.2.2 dX1_pick_76
      · have q_29 : (14 : Int32).toInt < n.toInt := by have := (not_congr (ow_le _ _)).mp c_14; omega
        exfalso
        omega
  · have q_30 : v_1.toInt ≤ (I deal 2).toInt := by have := (not_congr (ow_lt _ _)).mp c_2; omega
    refine W.widen (k := 0) (n := 0) (Nat.le_of_ble_eq_true rfl) (Nat.le_of_ble_eq_true rfl) ?_
    exact W.vret hx hb hr (fun t ht9 hW => ⟨⟨(I, J, E, B), rfl, ⟨hI, hE, hC_0, trivial⟩, ⟨by rw [ht9]; exact hP, hD⟩⟩, hS.F ht9⟩) hS.2.2 dX1_pick_10
set_option maxHeartbeats 4000000 in
set_option maxRecDepth 100000 in
theorem c_pick5 (l : Launch) (G : va_G) (cy : Nat → ClassId) (sz : Nat) (L : List Nat) (K : Nat → Nat) (R : Nat → Nat → Nat) (T : Int) (I E : Nat → Nat → Int32) (J B : Nat → Nat → Int64) (deal : Nat) (n : Int32) (n2 : Int32) (n3 : Int32) (hRT : RT L K R) (hI : IV T L K I) (hE : EV L K E) (h_deal1 : deal ∈ L) (h_deal2 : K deal = 9) (h_n : -2147483648 ≤ n.toInt ∧ n.toInt ≤ 5) : Met l yX1_pick (.code yX1_pick cX1_pick 5 none :: TBg) ({ frames := 6, cells := 0, slots := 0, locals := 384 }) (va_Pc [.ref deal, .int n, .int n2, .int n3] (En G cy (WC cy L K R I J E B) sz)) (va_Qv (fun (u : (Nat → Nat → Int32) × (Nat → Nat → Int64) × (Nat → Nat → Int32) × (Nat → Nat → Int64)) => IV T L K u.1 ∧ EV L K u.2.2.1 ∧ FI [(9, 1), (9, 2)] K I u.1 ∧ (True)) (fun u t => Ex G (va_A (WC cy L K R I J E B) sz) (WC cy L K R u.1 u.2.1 u.2.2.1 u.2.2.2) t) (va_A (WC cy L K R I J E B) sz)) 0 0 (va_A (WC cy L K R I J E B) sz) := by
  have h_deal : deal ∈ L ∧ K deal = 9 := ⟨h_deal1, h_deal2⟩
  refine Met.ofW (cc := cX1_pick) (maxL := 5) (ret := none) (by decide) rfl ?_
  intro p e s m args below meth c s₁ B9 hml hv9
  obtain ⟨rfl, hsz, hP, hK, hD0, hN⟩ := hv9
  have hx := B9.exec
  have hb := B9.bytes
  have hr := B9.returns
  have hts := atoms_spec (ws := .code yX1_pick cX1_pick 5 none :: TBg) B9.pre
  have ht : ∀ w ∈ TBg, w.before _ s = true := fun w h => hts w (List.mem_cons_of_mem _ h)
  have hown : s.vm.findClass RX1 = some m.cls := findClass_of_methodNamed B9.named
  have hlocks := B9.notSynchronized
  subst hsz
  have hD := hD0.self (sz := s.heap.size)
  generalize hAe : va_A (WC cy L K R I J E B) s.heap.size = A at hD ⊢
  have hA : ∀ q : Nat, s.heap.size ≤ q → A q := fun q h => by rw [← hAe]; exact Or.inr h
  have hS : va_S A s.heap s.heap [] := va_S.rf
  have hl := lv_entry ([.ref deal, .int n, .int n2, .int n3]) (n := 5) (Nat.le_of_ble_eq_true rfl)
  rw [lg_entry_eq]
  generalize (lg_sl ([.ref deal, .int n, .int n2, .int n3]) ++ List.replicate (5 - (lg_sl ([.ref deal, .int n, .int n2, .int n3])).length) Slot.unset).toArray = ls at hl ⊢
  have hl : lv_has ls 5 [(0, .ref deal), (1, .int n), (2, .int n2), (3, .int n3)] := hl
  have z0 : (0 : Int32).toInt = 0 := by decide
  have z1 : (1 : Int32).toInt = 1 := by decide
  have z2 : (14 : Int32).toInt = 14 := by decide
  have hC_0 : FI [(9, 1), (9, 2)] K I I := FI.rf
  refine lv_iload_n hx hb dX1_pick_0 rfl (lv_at hl 3 rfl) ?_
  refine lv_iload_n hx hb dX1_pick_1 rfl (lv_at hl 1 rfl) ?_
  refine lv_iadd hx hb dX1_pick_2 ?_
  refine lv_topi (fun v_1 ev_1 => ?_)
  refine lv_aload_n hx hb dX1_pick_3 rfl (lv_at hl 0 rfl) ?_
  refine cg_9_2_1 hx hb ht hown hK hN hP h_deal.1 h_deal.2 dX1_pick_4 ?_
  refine lv_icmp_gt (tgt := 11) hx hb dX1_pick_7 (by decide) (fun c_2 => ?_) (fun c_2 => ?_)
  · have q_3 : (I deal 2).toInt < v_1.toInt := (ow_lt _ _).mp c_2
    refine lv_iload_n hx hb dX1_pick_11 rfl (lv_at hl 1 rfl) ?_
    refine lv_iconst (v := 1) hx hb dX1_pick_12 (by decide) ?_
    refine lv_icmp_lt (tgt := 25) hx hb dX1_pick_13 (by decide) (fun c_4 => ?_) (fun c_4 => ?_)
    · have q_5 : n.toInt < (1 : Int32).toInt := (ow_lt _ _).mp c_4
      refine lv_aload_n hx hb dX1_pick_25 rfl (lv_at hl 0 rfl) ?_
      refine lv_iload_n hx hb dX1_pick_26 rfl (lv_at hl 2 rfl) ?_
      refine cp_9_1_1 hx hb ht hown hK hN hP hD hS h_deal.1 h_deal.2 dX1_pick_27 (fun H locs hP hD hS => ?_)
      replace hI := IV.up hI h_deal.2 1 (ow_any n2)
      have f_6 : FI [(9, 1)] K I (va_up I deal (va_up (I deal) 1 n2)) := FI.up h_deal.2 1 n2
      have e_7 : (va_up I deal (va_up (I deal) 1 n2)) deal 1 = n2 := FI.at I deal 1 n2
      replace hC_0 := FI.tr hC_0 f_6 (by decide)
      generalize (va_up I deal (va_up (I deal) 1 n2)) = I_8 at hP hD hI f_6 e_7 hC_0
      refine lv_aload_n hx hb dX1_pick_30 rfl (lv_at hl 0 rfl) ?_
      refine lv_iload_n hx hb dX1_pick_31 rfl (lv_at hl 3 rfl) ?_
      refine cp_9_2_1 hx hb ht hown hK hN hP hD hS h_deal.1 h_deal.2 dX1_pick_32 (fun H locs hP hD hS => ?_)
      replace hI := IV.up hI h_deal.2 2 (ow_any n3)
      have f_9 : FI [(9, 2)] K I_8 (va_up I_8 deal (va_up (I_8 deal) 2 n3)) := FI.up h_deal.2 2 n3
      have e_10 : (va_up I_8 deal (va_up (I_8 deal) 2 n3)) deal 2 = n3 := FI.at I_8 deal 2 n3
      replace hC_0 := FI.tr hC_0 f_9 (by decide)
      generalize (va_up I_8 deal (va_up (I_8 deal) 2 n3)) = I_11 at hP hD hI f_9 e_10 hC_0
      refine W.widen (k := 0) (n := 0) (Nat.le_of_ble_eq_true rfl) (Nat.le_of_ble_eq_true rfl) ?_
      exact W.vret hx hb hr (fun t ht9 hW => ⟨⟨(I_11, J, E, B), rfl, ⟨hI, hE, hC_0, trivial⟩, ⟨by rw [ht9]; exact hP, hD⟩⟩, hS.F ht9⟩) hS.2.2 dX1_pick_35
    · have q_12 : (1 : Int32).toInt ≤ n.toInt := by have := (not_congr (ow_lt _ _)).mp c_4; omega
      refine lv_iload_n hx hb dX1_pick_16 rfl (lv_at hl 1 rfl) ?_
      refine lv_aload_n hx hb dX1_pick_17 rfl (lv_at hl 0 rfl) ?_
      refine cg_9_0_1 hx hb ht hown hK hN hP h_deal.1 h_deal.2 dX1_pick_18 ?_
      have hm_13 : (R deal 0) ∈ L ∧ K (R deal 0) = 39 := RT.o hRT h_deal.1 h_deal.2 0 (by decide)
      refine cn_39 hx hb hK hP hm_13.1 hm_13.2 dX1_pick_21 ?_
      refine lv_icmp_le (tgt := 36) hx hb dX1_pick_22 (by decide) (fun c_14 => ?_) (fun c_14 => ?_)
      · have q_15 : n.toInt ≤ (14 : Int32).toInt := (ow_le _ _).mp c_14
        refine lv_iload_n hx hb dX1_pick_36 rfl (lv_at hl 1 rfl) ?_
        refine lv_iconst (v := 1) hx hb dX1_pick_37 (by decide) ?_
        refine lv_isub hx hb dX1_pick_38 ?_
        refine lv_topi (fun v_16 ev_16 => ?_)
        have q_17 : v_16.toInt = n.toInt - (1 : Int32).toInt := ow_sub ev_16 (by omega) (by omega)
        refine lv_istore (lv' := [(4, .int v_16), (0, .ref deal), (1, .int n), (2, .int n2), (3, .int n3)]) hx hb dX1_pick_39 hl (by decide) rfl (fun ls hl => ?_)
        refine lv_aload_n hx hb dX1_pick_41 rfl (lv_at hl 1 rfl) ?_
        refine lv_iload hx hb dX1_pick_42 (lv_at hl 0 rfl) ?_
        refine lv_iload_n hx hb dX1_pick_44 rfl (lv_at hl 3 rfl) ?_
        refine lv_iload_n hx hb dX1_pick_45 rfl (lv_at hl 4 rfl) ?_
        have hFc := fr_free hD hS hA
        refine va_callv (va_runS (As := [.ref deal, .int v_16, .int n2, .int n3]) (rest := []) ⟨hx, hb, hml, hown, ht⟩ (c_pick4 l G cy _ L K R T I E J B deal v_16 n2 n3 hRT hI hE h_deal.1 h_deal.2 (by omega)) (va_cwS 4 ht (gs k_492 k_493 k_494 k_491) rfl rfl rfl (by decide +kernel) ⟨Nat.le_of_ble_eq_true rfl, Nat.le_of_ble_eq_true rfl⟩) ⟨En.blind, fun U hU hW => ⟨rfl, En.of hU hW hP hK hD hN⟩⟩ rfl rfl hl.1 rfl (lv_room (Nat.le_of_ble_eq_true rfl)) dX1_pick_46 ⟨Nat.le_of_ble_eq_true rfl, Nat.le_of_ble_eq_true rfl⟩) hS (fun q _ h => hFc q h) hFc (fun u_18 t9 H locs ht9 hvm hw hB hz1 hk1 hS => ?_)
        obtain ⟨I18, J18, E18, B18⟩ := u_18
        obtain ⟨hP1, hD1⟩ := hB
        rw [ht9] at hP1
        clear hI hE
        obtain ⟨hI, hE, xu_18I, wu_18⟩ := hw
        dsimp only at hI hE xu_18I wu_18
        have hP : va_P G vwCl (WC cy L K R I18 J18 E18 B18) H := hP1
        have hD : va_D A (WC cy L K R I18 J18 E18 B18) := hD1.weaken (fun _ _ _ h => hFc _ h)
        clear hFc hk1 hz1 hP1 hD1
        replace hC_0 := FI.tr hC_0 xu_18I (by decide)
        refine lv_aload_n hx hb dX1_pick_49 rfl (lv_at hl 1 rfl) ?_
        refine cg_9_0_1 hx hb ht hown hK hN hP h_deal.1 h_deal.2 dX1_pick_50 ?_
        refine lv_iload hx hb dX1_pick_53 (lv_at hl 0 rfl) ?_
        have q_19 : vp_in v_16 14 := vp_in_iff.mpr ⟨by omega, by omega⟩
        refine cl_39 hx hb hK hP hm_13.1 hm_13.2 q_19 dX1_pick_55 ?_
        refine lv_topi (fun v_20 ev_20 => ?_)
        refine lv_iload_n hx hb dX1_pick_56 rfl (lv_at hl 3 rfl) ?_
        refine lv_iand hx hb dX1_pick_57 ?_
        refine lv_topi (fun v_21 ev_21 => ?_)
        refine lv_if_ne (tgt := 76) hx hb dX1_pick_58 (by decide) (fun c_22 => ?_) (fun c_22 => ?_)
        · have q_23 : ¬ v_21.toInt = (0 : Int32).toInt := by have := (not_congr (ow_eq _ _)).mp c_22; omega
          refine W.widen (k := 0) (n := 0) (Nat.le_of_ble_eq_true rfl) (Nat.le_of_ble_eq_true rfl) ?_
          exact W.vret hx hb hr (fun t ht9 hW => ⟨⟨(I18, J18, E18, B18), rfl, ⟨hI, hE, hC_0, trivial⟩, ⟨by rw [ht9]; exact hP, hD⟩⟩, hS.F ht9⟩) hS.2.2 dX1_pick_76
        · have q_24 : v_21.toInt = (0 : Int32).toInt := (ow_eq _ _).mp c_22
          refine lv_aload_n hx hb dX1_pick_61 rfl (lv_at hl 1 rfl) ?_
          refine lv_iload hx hb dX1_pick_62 (lv_at hl 0 rfl) ?_
          refine lv_iload_n hx hb dX1_pick_64 rfl (lv_at hl 3 rfl) ?_
          refine lv_iconst (v := 1) hx hb dX1_pick_65 (by decide) ?_
          refine lv_iload hx hb dX1_pick_66 (lv_at hl 0 rfl) ?_
          refine lv_ishl hx hb dX1_pick_68 ?_
          refine lv_topi (fun v_25 ev_25 => ?_)
          refine lv_ior hx hb dX1_pick_69 ?_
          refine lv_topi (fun v_26 ev_26 => ?_)
          refine lv_iload_n hx hb dX1_pick_70 rfl (lv_at hl 4 rfl) ?_
          refine lv_iconst (v := 1) hx hb dX1_pick_71 (by decide) ?_
          refine lv_iadd hx hb dX1_pick_72 ?_
          refine lv_topi (fun v_27 ev_27 => ?_)
          have hFc := fr_free hD hS hA
          refine va_callv (va_runS (As := [.ref deal, .int v_16, .int v_26, .int v_27]) (rest := []) ⟨hx, hb, hml, hown, ht⟩ (c_pick4 l G cy _ L K R T I18 E18 J18 B18 deal v_16 v_26 v_27 hRT hI hE h_deal.1 h_deal.2 (by omega)) (va_cwS 4 ht (gs k_492 k_493 k_494 k_491) rfl rfl rfl (by decide +kernel) ⟨Nat.le_of_ble_eq_true rfl, Nat.le_of_ble_eq_true rfl⟩) ⟨En.blind, fun U hU hW => ⟨rfl, En.of hU hW hP hK hD hN⟩⟩ rfl rfl hl.1 rfl (lv_room (Nat.le_of_ble_eq_true rfl)) dX1_pick_73 ⟨Nat.le_of_ble_eq_true rfl, Nat.le_of_ble_eq_true rfl⟩) hS (fun q _ h => hFc q h) hFc (fun u_28 t9 H locs ht9 hvm hw hB hz1 hk1 hS => ?_)
          obtain ⟨I28, J28, E28, B28⟩ := u_28
          obtain ⟨hP1, hD1⟩ := hB
          rw [ht9] at hP1
          clear hI hE
          obtain ⟨hI, hE, xu_28I, wu_28⟩ := hw
          dsimp only at hI hE xu_28I wu_28
          have hP : va_P G vwCl (WC cy L K R I28 J28 E28 B28) H := hP1
          have hD : va_D A (WC cy L K R I28 J28 E28 B28) := hD1.weaken (fun _ _ _ h => hFc _ h)
          clear hFc hk1 hz1 hP1 hD1
          replace hC_0 := FI.tr hC_0 xu_28I (by decide)
          refine W.widen (k := 0) (n := 0) (Nat.le_of_ble_eq_true rfl) (Nat.le_of_ble_eq_true rfl) ?_
          exact W.vret hx hb hr (fun t ht9 hW => ⟨⟨(I28, J28, E28, B28), rfl, ⟨hI, hE, hC_0, trivial⟩, ⟨by rw [ht9]; exact hP, hD⟩⟩, hS.F ht9⟩) hS.2.2 dX1_pick_76
      · have q_29 : (14 : Int32).toInt < n.toInt := by have := (not_congr (ow_le _ _)).mp c_14; omega
        exfalso
        omega
  · have q_30 : v_1.toInt ≤ (I deal 2).toInt := by have := (not_congr (ow_lt _ _)).mp c_2; omega
    refine W.widen (k := 0) (n := 0) (Nat.le_of_ble_eq_true rfl) (Nat.le_of_ble_eq_true rfl) ?_
    exact W.vret hx hb hr (fun t ht9 hW => ⟨⟨(I, J, E, B), rfl, ⟨hI, hE, hC_0, trivial⟩, ⟨by rw [ht9]; exact hP, hD⟩⟩, hS.F ht9⟩) hS.2.2 dX1_pick_10
set_option maxHeartbeats 4000000 in
set_option maxRecDepth 100000 in
theorem c_pick6 (l : Launch) (G : va_G) (cy : Nat → ClassId) (sz : Nat) (L : List Nat) (K : Nat → Nat) (R : Nat → Nat → Nat) (T : Int) (I E : Nat → Nat → Int32) (J B : Nat → Nat → Int64) (deal : Nat) (n : Int32) (n2 : Int32) (n3 : Int32) (hRT : RT L K R) (hI : IV T L K I) (hE : EV L K E) (h_deal1 : deal ∈ L) (h_deal2 : K deal = 9) (h_n : -2147483648 ≤ n.toInt ∧ n.toInt ≤ 6) : Met l yX1_pick (.code yX1_pick cX1_pick 5 none :: TBg) ({ frames := 7, cells := 0, slots := 0, locals := 448 }) (va_Pc [.ref deal, .int n, .int n2, .int n3] (En G cy (WC cy L K R I J E B) sz)) (va_Qv (fun (u : (Nat → Nat → Int32) × (Nat → Nat → Int64) × (Nat → Nat → Int32) × (Nat → Nat → Int64)) => IV T L K u.1 ∧ EV L K u.2.2.1 ∧ FI [(9, 1), (9, 2)] K I u.1 ∧ (True)) (fun u t => Ex G (va_A (WC cy L K R I J E B) sz) (WC cy L K R u.1 u.2.1 u.2.2.1 u.2.2.2) t) (va_A (WC cy L K R I J E B) sz)) 0 0 (va_A (WC cy L K R I J E B) sz) := by
  have h_deal : deal ∈ L ∧ K deal = 9 := ⟨h_deal1, h_deal2⟩
  refine Met.ofW (cc := cX1_pick) (maxL := 5) (ret := none) (by decide) rfl ?_
  intro p e s m args below meth c s₁ B9 hml hv9
  obtain ⟨rfl, hsz, hP, hK, hD0, hN⟩ := hv9
  have hx := B9.exec
  have hb := B9.bytes
  have hr := B9.returns
  have hts := atoms_spec (ws := .code yX1_pick cX1_pick 5 none :: TBg) B9.pre
  have ht : ∀ w ∈ TBg, w.before _ s = true := fun w h => hts w (List.mem_cons_of_mem _ h)
  have hown : s.vm.findClass RX1 = some m.cls := findClass_of_methodNamed B9.named
  have hlocks := B9.notSynchronized
  subst hsz
  have hD := hD0.self (sz := s.heap.size)
  generalize hAe : va_A (WC cy L K R I J E B) s.heap.size = A at hD ⊢
  have hA : ∀ q : Nat, s.heap.size ≤ q → A q := fun q h => by rw [← hAe]; exact Or.inr h
  have hS : va_S A s.heap s.heap [] := va_S.rf
  have hl := lv_entry ([.ref deal, .int n, .int n2, .int n3]) (n := 5) (Nat.le_of_ble_eq_true rfl)
  rw [lg_entry_eq]
  generalize (lg_sl ([.ref deal, .int n, .int n2, .int n3]) ++ List.replicate (5 - (lg_sl ([.ref deal, .int n, .int n2, .int n3])).length) Slot.unset).toArray = ls at hl ⊢
  have hl : lv_has ls 5 [(0, .ref deal), (1, .int n), (2, .int n2), (3, .int n3)] := hl
  have z0 : (0 : Int32).toInt = 0 := by decide
  have z1 : (1 : Int32).toInt = 1 := by decide
  have z2 : (14 : Int32).toInt = 14 := by decide
  have hC_0 : FI [(9, 1), (9, 2)] K I I := FI.rf
  refine lv_iload_n hx hb dX1_pick_0 rfl (lv_at hl 3 rfl) ?_
  refine lv_iload_n hx hb dX1_pick_1 rfl (lv_at hl 1 rfl) ?_
  refine lv_iadd hx hb dX1_pick_2 ?_
  refine lv_topi (fun v_1 ev_1 => ?_)
  refine lv_aload_n hx hb dX1_pick_3 rfl (lv_at hl 0 rfl) ?_
  refine cg_9_2_1 hx hb ht hown hK hN hP h_deal.1 h_deal.2 dX1_pick_4 ?_
  refine lv_icmp_gt (tgt := 11) hx hb dX1_pick_7 (by decide) (fun c_2 => ?_) (fun c_2 => ?_)
  · have q_3 : (I deal 2).toInt < v_1.toInt := (ow_lt _ _).mp c_2
    refine lv_iload_n hx hb dX1_pick_11 rfl (lv_at hl 1 rfl) ?_
    refine lv_iconst (v := 1) hx hb dX1_pick_12 (by decide) ?_
    refine lv_icmp_lt (tgt := 25) hx hb dX1_pick_13 (by decide) (fun c_4 => ?_) (fun c_4 => ?_)
    · have q_5 : n.toInt < (1 : Int32).toInt := (ow_lt _ _).mp c_4
      refine lv_aload_n hx hb dX1_pick_25 rfl (lv_at hl 0 rfl) ?_
      refine lv_iload_n hx hb dX1_pick_26 rfl (lv_at hl 2 rfl) ?_
      refine cp_9_1_1 hx hb ht hown hK hN hP hD hS h_deal.1 h_deal.2 dX1_pick_27 (fun H locs hP hD hS => ?_)
      replace hI := IV.up hI h_deal.2 1 (ow_any n2)
      have f_6 : FI [(9, 1)] K I (va_up I deal (va_up (I deal) 1 n2)) := FI.up h_deal.2 1 n2
      have e_7 : (va_up I deal (va_up (I deal) 1 n2)) deal 1 = n2 := FI.at I deal 1 n2
      replace hC_0 := FI.tr hC_0 f_6 (by decide)
      generalize (va_up I deal (va_up (I deal) 1 n2)) = I_8 at hP hD hI f_6 e_7 hC_0
      refine lv_aload_n hx hb dX1_pick_30 rfl (lv_at hl 0 rfl) ?_
      refine lv_iload_n hx hb dX1_pick_31 rfl (lv_at hl 3 rfl) ?_
      refine cp_9_2_1 hx hb ht hown hK hN hP hD hS h_deal.1 h_deal.2 dX1_pick_32 (fun H locs hP hD hS => ?_)
      replace hI := IV.up hI h_deal.2 2 (ow_any n3)
      have f_9 : FI [(9, 2)] K I_8 (va_up I_8 deal (va_up (I_8 deal) 2 n3)) := FI.up h_deal.2 2 n3
      have e_10 : (va_up I_8 deal (va_up (I_8 deal) 2 n3)) deal 2 = n3 := FI.at I_8 deal 2 n3
      replace hC_0 := FI.tr hC_0 f_9 (by decide)
      generalize (va_up I_8 deal (va_up (I_8 deal) 2 n3)) = I_11 at hP hD hI f_9 e_10 hC_0
      refine W.widen (k := 0) (n := 0) (Nat.le_of_ble_eq_true rfl) (Nat.le_of_ble_eq_true rfl) ?_
      exact W.vret hx hb hr (fun t ht9 hW => ⟨⟨(I_11, J, E, B), rfl, ⟨hI, hE, hC_0, trivial⟩, ⟨by rw [ht9]; exact hP, hD⟩⟩, hS.F ht9⟩) hS.2.2 dX1_pick_35
    · have q_12 : (1 : Int32).toInt ≤ n.toInt := by have := (not_congr (ow_lt _ _)).mp c_4; omega
      refine lv_iload_n hx hb dX1_pick_16 rfl (lv_at hl 1 rfl) ?_
      refine lv_aload_n hx hb dX1_pick_17 rfl (lv_at hl 0 rfl) ?_
      refine cg_9_0_1 hx hb ht hown hK hN hP h_deal.1 h_deal.2 dX1_pick_18 ?_
      have hm_13 : (R deal 0) ∈ L ∧ K (R deal 0) = 39 := RT.o hRT h_deal.1 h_deal.2 0 (by decide)
      refine cn_39 hx hb hK hP hm_13.1 hm_13.2 dX1_pick_21 ?_
      refine lv_icmp_le (tgt := 36) hx hb dX1_pick_22 (by decide) (fun c_14 => ?_) (fun c_14 => ?_)
      · have q_15 : n.toInt ≤ (14 : Int32).toInt := (ow_le _ _).mp c_14
        refine lv_iload_n hx hb dX1_pick_36 rfl (lv_at hl 1 rfl) ?_
        refine lv_iconst (v := 1) hx hb dX1_pick_37 (by decide) ?_
        refine lv_isub hx hb dX1_pick_38 ?_
        refine lv_topi (fun v_16 ev_16 => ?_)
        have q_17 : v_16.toInt = n.toInt - (1 : Int32).toInt := ow_sub ev_16 (by omega) (by omega)
        refine lv_istore (lv' := [(4, .int v_16), (0, .ref deal), (1, .int n), (2, .int n2), (3, .int n3)]) hx hb dX1_pick_39 hl (by decide) rfl (fun ls hl => ?_)
        refine lv_aload_n hx hb dX1_pick_41 rfl (lv_at hl 1 rfl) ?_
        refine lv_iload hx hb dX1_pick_42 (lv_at hl 0 rfl) ?_
        refine lv_iload_n hx hb dX1_pick_44 rfl (lv_at hl 3 rfl) ?_
        refine lv_iload_n hx hb dX1_pick_45 rfl (lv_at hl 4 rfl) ?_
        have hFc := fr_free hD hS hA
        refine va_callv (va_runS (As := [.ref deal, .int v_16, .int n2, .int n3]) (rest := []) ⟨hx, hb, hml, hown, ht⟩ (c_pick5 l G cy _ L K R T I E J B deal v_16 n2 n3 hRT hI hE h_deal.1 h_deal.2 (by omega)) (va_cwS 4 ht (gs k_492 k_493 k_494 k_491) rfl rfl rfl (by decide +kernel) ⟨Nat.le_of_ble_eq_true rfl, Nat.le_of_ble_eq_true rfl⟩) ⟨En.blind, fun U hU hW => ⟨rfl, En.of hU hW hP hK hD hN⟩⟩ rfl rfl hl.1 rfl (lv_room (Nat.le_of_ble_eq_true rfl)) dX1_pick_46 ⟨Nat.le_of_ble_eq_true rfl, Nat.le_of_ble_eq_true rfl⟩) hS (fun q _ h => hFc q h) hFc (fun u_18 t9 H locs ht9 hvm hw hB hz1 hk1 hS => ?_)
        obtain ⟨I18, J18, E18, B18⟩ := u_18
        obtain ⟨hP1, hD1⟩ := hB
        rw [ht9] at hP1
        clear hI hE
        obtain ⟨hI, hE, xu_18I, wu_18⟩ := hw
        dsimp only at hI hE xu_18I wu_18
        have hP : va_P G vwCl (WC cy L K R I18 J18 E18 B18) H := hP1
        have hD : va_D A (WC cy L K R I18 J18 E18 B18) := hD1.weaken (fun _ _ _ h => hFc _ h)
        clear hFc hk1 hz1 hP1 hD1
        replace hC_0 := FI.tr hC_0 xu_18I (by decide)
        refine lv_aload_n hx hb dX1_pick_49 rfl (lv_at hl 1 rfl) ?_
        refine cg_9_0_1 hx hb ht hown hK hN hP h_deal.1 h_deal.2 dX1_pick_50 ?_
        refine lv_iload hx hb dX1_pick_53 (lv_at hl 0 rfl) ?_
        have q_19 : vp_in v_16 14 := vp_in_iff.mpr ⟨by omega, by omega⟩
        refine cl_39 hx hb hK hP hm_13.1 hm_13.2 q_19 dX1_pick_55 ?_
        refine lv_topi (fun v_20 ev_20 => ?_)
        refine lv_iload_n hx hb dX1_pick_56 rfl (lv_at hl 3 rfl) ?_
        refine lv_iand hx hb dX1_pick_57 ?_
        refine lv_topi (fun v_21 ev_21 => ?_)
        refine lv_if_ne (tgt := 76) hx hb dX1_pick_58 (by decide) (fun c_22 => ?_) (fun c_22 => ?_)
        · have q_23 : ¬ v_21.toInt = (0 : Int32).toInt := by have := (not_congr (ow_eq _ _)).mp c_22; omega
          refine W.widen (k := 0) (n := 0) (Nat.le_of_ble_eq_true rfl) (Nat.le_of_ble_eq_true rfl) ?_
          exact W.vret hx hb hr (fun t ht9 hW => ⟨⟨(I18, J18, E18, B18), rfl, ⟨hI, hE, hC_0, trivial⟩, ⟨by rw [ht9]; exact hP, hD⟩⟩, hS.F ht9⟩) hS.2.2 dX1_pick_76
        · have q_24 : v_21.toInt = (0 : Int32).toInt := (ow_eq _ _).mp c_22
          refine lv_aload_n hx hb dX1_pick_61 rfl (lv_at hl 1 rfl) ?_
          refine lv_iload hx hb dX1_pick_62 (lv_at hl 0 rfl) ?_
          refine lv_iload_n hx hb dX1_pick_64 rfl (lv_at hl 3 rfl) ?_
          refine lv_iconst (v := 1) hx hb dX1_pick_65 (by decide) ?_
          refine lv_iload hx hb dX1_pick_66 (lv_at hl 0 rfl) ?_
          refine lv_ishl hx hb dX1_pick_68 ?_
          refine lv_topi (fun v_25 ev_25 => ?_)
          refine lv_ior hx hb dX1_pick_69 ?_
          refine lv_topi (fun v_26 ev_26 => ?_)
          refine lv_iload_n hx hb dX1_pick_70 rfl (lv_at hl 4 rfl) ?_
          refine lv_iconst (v := 1) hx hb dX1_pick_71 (by decide) ?_
          refine lv_iadd hx hb dX1_pick_72 ?_
          refine lv_topi (fun v_27 ev_27 => ?_)
          have hFc := fr_free hD hS hA
          refine va_callv (va_runS (As := [.ref deal, .int v_16, .int v_26, .int v_27]) (rest := []) ⟨hx, hb, hml, hown, ht⟩ (c_pick5 l G cy _ L K R T I18 E18 J18 B18 deal v_16 v_26 v_27 hRT hI hE h_deal.1 h_deal.2 (by omega)) (va_cwS 4 ht (gs k_492 k_493 k_494 k_491) rfl rfl rfl (by decide +kernel) ⟨Nat.le_of_ble_eq_true rfl, Nat.le_of_ble_eq_true rfl⟩) ⟨En.blind, fun U hU hW => ⟨rfl, En.of hU hW hP hK hD hN⟩⟩ rfl rfl hl.1 rfl (lv_room (Nat.le_of_ble_eq_true rfl)) dX1_pick_73 ⟨Nat.le_of_ble_eq_true rfl, Nat.le_of_ble_eq_true rfl⟩) hS (fun q _ h => hFc q h) hFc (fun u_28 t9 H locs ht9 hvm hw hB hz1 hk1 hS => ?_)
          obtain ⟨I28, J28, E28, B28⟩ := u_28
          obtain ⟨hP1, hD1⟩ := hB
          rw [ht9] at hP1
          clear hI hE
          obtain ⟨hI, hE, xu_28I, wu_28⟩ := hw
          dsimp only at hI hE xu_28I wu_28
          have hP : va_P G vwCl (WC cy L K R I28 J28 E28 B28) H := hP1
          have hD : va_D A (WC cy L K R I28 J28 E28 B28) := hD1.weaken (fun _ _ _ h => hFc _ h)
          clear hFc hk1 hz1 hP1 hD1
          replace hC_0 := FI.tr hC_0 xu_28I (by decide)
          refine W.widen (k := 0) (n := 0) (Nat.le_of_ble_eq_true rfl) (Nat.le_of_ble_eq_true rfl) ?_
          exact W.vret hx hb hr (fun t ht9 hW => ⟨⟨(I28, J28, E28, B28), rfl, ⟨hI, hE, hC_0, trivial⟩, ⟨by rw [ht9]; exact hP, hD⟩⟩, hS.F ht9⟩) hS.2.2 dX1_pick_76
      · have q_29 : (14 : Int32).toInt < n.toInt := by have := (not_congr (ow_le _ _)).mp c_14; omega
        exfalso
        omega
  · have q_30 : v_1.toInt ≤ (I deal 2).toInt := by have := (not_congr (ow_lt _ _)).mp c_2; omega
    refine W.widen (k := 0) (n := 0) (Nat.le_of_ble_eq_true rfl) (Nat.le_of_ble_eq_true rfl) ?_
    exact W.vret hx hb hr (fun t ht9 hW => ⟨⟨(I, J, E, B), rfl, ⟨hI, hE, hC_0, trivial⟩, ⟨by rw [ht9]; exact hP, hD⟩⟩, hS.F ht9⟩) hS.2.2 dX1_pick_10
set_option maxHeartbeats 4000000 in
set_option maxRecDepth 100000 in
theorem c_pick7 (l : Launch) (G : va_G) (cy : Nat → ClassId) (sz : Nat) (L : List Nat) (K : Nat → Nat) (R : Nat → Nat → Nat) (T : Int) (I E : Nat → Nat → Int32) (J B : Nat → Nat → Int64) (deal : Nat) (n : Int32) (n2 : Int32) (n3 : Int32) (hRT : RT L K R) (hI : IV T L K I) (hE : EV L K E) (h_deal1 : deal ∈ L) (h_deal2 : K deal = 9) (h_n : -2147483648 ≤ n.toInt ∧ n.toInt ≤ 7) : Met l yX1_pick (.code yX1_pick cX1_pick 5 none :: TBg) ({ frames := 8, cells := 0, slots := 0, locals := 512 }) (va_Pc [.ref deal, .int n, .int n2, .int n3] (En G cy (WC cy L K R I J E B) sz)) (va_Qv (fun (u : (Nat → Nat → Int32) × (Nat → Nat → Int64) × (Nat → Nat → Int32) × (Nat → Nat → Int64)) => IV T L K u.1 ∧ EV L K u.2.2.1 ∧ FI [(9, 1), (9, 2)] K I u.1 ∧ (True)) (fun u t => Ex G (va_A (WC cy L K R I J E B) sz) (WC cy L K R u.1 u.2.1 u.2.2.1 u.2.2.2) t) (va_A (WC cy L K R I J E B) sz)) 0 0 (va_A (WC cy L K R I J E B) sz) := by
  have h_deal : deal ∈ L ∧ K deal = 9 := ⟨h_deal1, h_deal2⟩
  refine Met.ofW (cc := cX1_pick) (maxL := 5) (ret := none) (by decide) rfl ?_
  intro p e s m args below meth c s₁ B9 hml hv9
  obtain ⟨rfl, hsz, hP, hK, hD0, hN⟩ := hv9
  have hx := B9.exec
  have hb := B9.bytes
  have hr := B9.returns
  have hts := atoms_spec (ws := .code yX1_pick cX1_pick 5 none :: TBg) B9.pre
  have ht : ∀ w ∈ TBg, w.before _ s = true := fun w h => hts w (List.mem_cons_of_mem _ h)
  have hown : s.vm.findClass RX1 = some m.cls := findClass_of_methodNamed B9.named
  have hlocks := B9.notSynchronized
  subst hsz
  have hD := hD0.self (sz := s.heap.size)
  generalize hAe : va_A (WC cy L K R I J E B) s.heap.size = A at hD ⊢
  have hA : ∀ q : Nat, s.heap.size ≤ q → A q := fun q h => by rw [← hAe]; exact Or.inr h
  have hS : va_S A s.heap s.heap [] := va_S.rf
  have hl := lv_entry ([.ref deal, .int n, .int n2, .int n3]) (n := 5) (Nat.le_of_ble_eq_true rfl)
  rw [lg_entry_eq]
  generalize (lg_sl ([.ref deal, .int n, .int n2, .int n3]) ++ List.replicate (5 - (lg_sl ([.ref deal, .int n, .int n2, .int n3])).length) Slot.unset).toArray = ls at hl ⊢
  have hl : lv_has ls 5 [(0, .ref deal), (1, .int n), (2, .int n2), (3, .int n3)] := hl
  have z0 : (0 : Int32).toInt = 0 := by decide
  have z1 : (1 : Int32).toInt = 1 := by decide
  have z2 : (14 : Int32).toInt = 14 := by decide
  have hC_0 : FI [(9, 1), (9, 2)] K I I := FI.rf
  refine lv_iload_n hx hb dX1_pick_0 rfl (lv_at hl 3 rfl) ?_
  refine lv_iload_n hx hb dX1_pick_1 rfl (lv_at hl 1 rfl) ?_
  refine lv_iadd hx hb dX1_pick_2 ?_
  refine lv_topi (fun v_1 ev_1 => ?_)
  refine lv_aload_n hx hb dX1_pick_3 rfl (lv_at hl 0 rfl) ?_
  refine cg_9_2_1 hx hb ht hown hK hN hP h_deal.1 h_deal.2 dX1_pick_4 ?_
  refine lv_icmp_gt (tgt := 11) hx hb dX1_pick_7 (by decide) (fun c_2 => ?_) (fun c_2 => ?_)
  · have q_3 : (I deal 2).toInt < v_1.toInt := (ow_lt _ _).mp c_2
    refine lv_iload_n hx hb dX1_pick_11 rfl (lv_at hl 1 rfl) ?_
    refine lv_iconst (v := 1) hx hb dX1_pick_12 (by decide) ?_
    refine lv_icmp_lt (tgt := 25) hx hb dX1_pick_13 (by decide) (fun c_4 => ?_) (fun c_4 => ?_)
    · have q_5 : n.toInt < (1 : Int32).toInt := (ow_lt _ _).mp c_4
      refine lv_aload_n hx hb dX1_pick_25 rfl (lv_at hl 0 rfl) ?_
      refine lv_iload_n hx hb dX1_pick_26 rfl (lv_at hl 2 rfl) ?_
      refine cp_9_1_1 hx hb ht hown hK hN hP hD hS h_deal.1 h_deal.2 dX1_pick_27 (fun H locs hP hD hS => ?_)
      replace hI := IV.up hI h_deal.2 1 (ow_any n2)
      have f_6 : FI [(9, 1)] K I (va_up I deal (va_up (I deal) 1 n2)) := FI.up h_deal.2 1 n2
      have e_7 : (va_up I deal (va_up (I deal) 1 n2)) deal 1 = n2 := FI.at I deal 1 n2
      replace hC_0 := FI.tr hC_0 f_6 (by decide)
      generalize (va_up I deal (va_up (I deal) 1 n2)) = I_8 at hP hD hI f_6 e_7 hC_0
      refine lv_aload_n hx hb dX1_pick_30 rfl (lv_at hl 0 rfl) ?_
      refine lv_iload_n hx hb dX1_pick_31 rfl (lv_at hl 3 rfl) ?_
      refine cp_9_2_1 hx hb ht hown hK hN hP hD hS h_deal.1 h_deal.2 dX1_pick_32 (fun H locs hP hD hS => ?_)
      replace hI := IV.up hI h_deal.2 2 (ow_any n3)
      have f_9 : FI [(9, 2)] K I_8 (va_up I_8 deal (va_up (I_8 deal) 2 n3)) := FI.up h_deal.2 2 n3
      have e_10 : (va_up I_8 deal (va_up (I_8 deal) 2 n3)) deal 2 = n3 := FI.at I_8 deal 2 n3
      replace hC_0 := FI.tr hC_0 f_9 (by decide)
      generalize (va_up I_8 deal (va_up (I_8 deal) 2 n3)) = I_11 at hP hD hI f_9 e_10 hC_0
      refine W.widen (k := 0) (n := 0) (Nat.le_of_ble_eq_true rfl) (Nat.le_of_ble_eq_true rfl) ?_
      exact W.vret hx hb hr (fun t ht9 hW => ⟨⟨(I_11, J, E, B), rfl, ⟨hI, hE, hC_0, trivial⟩, ⟨by rw [ht9]; exact hP, hD⟩⟩, hS.F ht9⟩) hS.2.2 dX1_pick_35
    · have q_12 : (1 : Int32).toInt ≤ n.toInt := by have := (not_congr (ow_lt _ _)).mp c_4; omega
      refine lv_iload_n hx hb dX1_pick_16 rfl (lv_at hl 1 rfl) ?_
      refine lv_aload_n hx hb dX1_pick_17 rfl (lv_at hl 0 rfl) ?_
      refine cg_9_0_1 hx hb ht hown hK hN hP h_deal.1 h_deal.2 dX1_pick_18 ?_
      have hm_13 : (R deal 0) ∈ L ∧ K (R deal 0) = 39 := RT.o hRT h_deal.1 h_deal.2 0 (by decide)
      refine cn_39 hx hb hK hP hm_13.1 hm_13.2 dX1_pick_21 ?_
      refine lv_icmp_le (tgt := 36) hx hb dX1_pick_22 (by decide) (fun c_14 => ?_) (fun c_14 => ?_)
      · have q_15 : n.toInt ≤ (14 : Int32).toInt := (ow_le _ _).mp c_14
        refine lv_iload_n hx hb dX1_pick_36 rfl (lv_at hl 1 rfl) ?_
        refine lv_iconst (v := 1) hx hb dX1_pick_37 (by decide) ?_
        refine lv_isub hx hb dX1_pick_38 ?_
        refine lv_topi (fun v_16 ev_16 => ?_)
        have q_17 : v_16.toInt = n.toInt - (1 : Int32).toInt := ow_sub ev_16 (by omega) (by omega)
        refine lv_istore (lv' := [(4, .int v_16), (0, .ref deal), (1, .int n), (2, .int n2), (3, .int n3)]) hx hb dX1_pick_39 hl (by decide) rfl (fun ls hl => ?_)
        refine lv_aload_n hx hb dX1_pick_41 rfl (lv_at hl 1 rfl) ?_
        refine lv_iload hx hb dX1_pick_42 (lv_at hl 0 rfl) ?_
        refine lv_iload_n hx hb dX1_pick_44 rfl (lv_at hl 3 rfl) ?_
        refine lv_iload_n hx hb dX1_pick_45 rfl (lv_at hl 4 rfl) ?_
        have hFc := fr_free hD hS hA
        refine va_callv (va_runS (As := [.ref deal, .int v_16, .int n2, .int n3]) (rest := []) ⟨hx, hb, hml, hown, ht⟩ (c_pick6 l G cy _ L K R T I E J B deal v_16 n2 n3 hRT hI hE h_deal.1 h_deal.2 (by omega)) (va_cwS 4 ht (gs k_492 k_493 k_494 k_491) rfl rfl rfl (by decide +kernel) ⟨Nat.le_of_ble_eq_true rfl, Nat.le_of_ble_eq_true rfl⟩) ⟨En.blind, fun U hU hW => ⟨rfl, En.of hU hW hP hK hD hN⟩⟩ rfl rfl hl.1 rfl (lv_room (Nat.le_of_ble_eq_true rfl)) dX1_pick_46 ⟨Nat.le_of_ble_eq_true rfl, Nat.le_of_ble_eq_true rfl⟩) hS (fun q _ h => hFc q h) hFc (fun u_18 t9 H locs ht9 hvm hw hB hz1 hk1 hS => ?_)
        obtain ⟨I18, J18, E18, B18⟩ := u_18
        obtain ⟨hP1, hD1⟩ := hB
        rw [ht9] at hP1
        clear hI hE
        obtain ⟨hI, hE, xu_18I, wu_18⟩ := hw
        dsimp only at hI hE xu_18I wu_18
        have hP : va_P G vwCl (WC cy L K R I18 J18 E18 B18) H := hP1
        have hD : va_D A (WC cy L K R I18 J18 E18 B18) := hD1.weaken (fun _ _ _ h => hFc _ h)
        clear hFc hk1 hz1 hP1 hD1
        replace hC_0 := FI.tr hC_0 xu_18I (by decide)
        refine lv_aload_n hx hb dX1_pick_49 rfl (lv_at hl 1 rfl) ?_
        refine cg_9_0_1 hx hb ht hown hK hN hP h_deal.1 h_deal.2 dX1_pick_50 ?_
        refine lv_iload hx hb dX1_pick_53 (lv_at hl 0 rfl) ?_
        have q_19 : vp_in v_16 14 := vp_in_iff.mpr ⟨by omega, by omega⟩
        refine cl_39 hx hb hK hP hm_13.1 hm_13.2 q_19 dX1_pick_55 ?_
        refine lv_topi (fun v_20 ev_20 => ?_)
        refine lv_iload_n hx hb dX1_pick_56 rfl (lv_at hl 3 rfl) ?_
        refine lv_iand hx hb dX1_pick_57 ?_
        refine lv_topi (fun v_21 ev_21 => ?_)
        refine lv_if_ne (tgt := 76) hx hb dX1_pick_58 (by decide) (fun c_22 => ?_) (fun c_22 => ?_)
        · have q_23 : ¬ v_21.toInt = (0 : Int32).toInt := by have := (not_congr (ow_eq _ _)).mp c_22; omega
          refine W.widen (k := 0) (n := 0) (Nat.le_of_ble_eq_true rfl) (Nat.le_of_ble_eq_true rfl) ?_
          exact W.vret hx hb hr (fun t ht9 hW => ⟨⟨(I18, J18, E18, B18), rfl, ⟨hI, hE, hC_0, trivial⟩, ⟨by rw [ht9]; exact hP, hD⟩⟩, hS.F ht9⟩) hS.2.2 dX1_pick_76
        · have q_24 : v_21.toInt = (0 : Int32).toInt := (ow_eq _ _).mp c_22
          refine lv_aload_n hx hb dX1_pick_61 rfl (lv_at hl 1 rfl) ?_
          refine lv_iload hx hb dX1_pick_62 (lv_at hl 0 rfl) ?_
          refine lv_iload_n hx hb dX1_pick_64 rfl (lv_at hl 3 rfl) ?_
          refine lv_iconst (v := 1) hx hb dX1_pick_65 (by decide) ?_
          refine lv_iload hx hb dX1_pick_66 (lv_at hl 0 rfl) ?_
          refine lv_ishl hx hb dX1_pick_68 ?_
          refine lv_topi (fun v_25 ev_25 => ?_)
          refine lv_ior hx hb dX1_pick_69 ?_
          refine lv_topi (fun v_26 ev_26 => ?_)
          refine lv_iload_n hx hb dX1_pick_70 rfl (lv_at hl 4 rfl) ?_
          refine lv_iconst (v := 1) hx hb dX1_pick_71 (by decide) ?_
          refine lv_iadd hx hb dX1_pick_72 ?_
          refine lv_topi (fun v_27 ev_27 => ?_)
          have hFc := fr_free hD hS hA
          refine va_callv (va_runS (As := [.ref deal, .int v_16, .int v_26, .int v_27]) (rest := []) ⟨hx, hb, hml, hown, ht⟩ (c_pick6 l G cy _ L K R T I18 E18 J18 B18 deal v_16 v_26 v_27 hRT hI hE h_deal.1 h_deal.2 (by omega)) (va_cwS 4 ht (gs k_492 k_493 k_494 k_491) rfl rfl rfl (by decide +kernel) ⟨Nat.le_of_ble_eq_true rfl, Nat.le_of_ble_eq_true rfl⟩) ⟨En.blind, fun U hU hW => ⟨rfl, En.of hU hW hP hK hD hN⟩⟩ rfl rfl hl.1 rfl (lv_room (Nat.le_of_ble_eq_true rfl)) dX1_pick_73 ⟨Nat.le_of_ble_eq_true rfl, Nat.le_of_ble_eq_true rfl⟩) hS (fun q _ h => hFc q h) hFc (fun u_28 t9 H locs ht9 hvm hw hB hz1 hk1 hS => ?_)
          obtain ⟨I28, J28, E28, B28⟩ := u_28
          obtain ⟨hP1, hD1⟩ := hB
          rw [ht9] at hP1
          clear hI hE
          obtain ⟨hI, hE, xu_28I, wu_28⟩ := hw
          dsimp only at hI hE xu_28I wu_28
          have hP : va_P G vwCl (WC cy L K R I28 J28 E28 B28) H := hP1
          have hD : va_D A (WC cy L K R I28 J28 E28 B28) := hD1.weaken (fun _ _ _ h => hFc _ h)
          clear hFc hk1 hz1 hP1 hD1
          replace hC_0 := FI.tr hC_0 xu_28I (by decide)
          refine W.widen (k := 0) (n := 0) (Nat.le_of_ble_eq_true rfl) (Nat.le_of_ble_eq_true rfl) ?_
          exact W.vret hx hb hr (fun t ht9 hW => ⟨⟨(I28, J28, E28, B28), rfl, ⟨hI, hE, hC_0, trivial⟩, ⟨by rw [ht9]; exact hP, hD⟩⟩, hS.F ht9⟩) hS.2.2 dX1_pick_76
      · have q_29 : (14 : Int32).toInt < n.toInt := by have := (not_congr (ow_le _ _)).mp c_14; omega
        exfalso
        omega
  · have q_30 : v_1.toInt ≤ (I deal 2).toInt := by have := (not_congr (ow_lt _ _)).mp c_2; omega
    refine W.widen (k := 0) (n := 0) (Nat.le_of_ble_eq_true rfl) (Nat.le_of_ble_eq_true rfl) ?_
    exact W.vret hx hb hr (fun t ht9 hW => ⟨⟨(I, J, E, B), rfl, ⟨hI, hE, hC_0, trivial⟩, ⟨by rw [ht9]; exact hP, hD⟩⟩, hS.F ht9⟩) hS.2.2 dX1_pick_10
set_option maxHeartbeats 4000000 in
set_option maxRecDepth 100000 in
theorem c_pick8 (l : Launch) (G : va_G) (cy : Nat → ClassId) (sz : Nat) (L : List Nat) (K : Nat → Nat) (R : Nat → Nat → Nat) (T : Int) (I E : Nat → Nat → Int32) (J B : Nat → Nat → Int64) (deal : Nat) (n : Int32) (n2 : Int32) (n3 : Int32) (hRT : RT L K R) (hI : IV T L K I) (hE : EV L K E) (h_deal1 : deal ∈ L) (h_deal2 : K deal = 9) (h_n : -2147483648 ≤ n.toInt ∧ n.toInt ≤ 8) : Met l yX1_pick (.code yX1_pick cX1_pick 5 none :: TBg) ({ frames := 9, cells := 0, slots := 0, locals := 576 }) (va_Pc [.ref deal, .int n, .int n2, .int n3] (En G cy (WC cy L K R I J E B) sz)) (va_Qv (fun (u : (Nat → Nat → Int32) × (Nat → Nat → Int64) × (Nat → Nat → Int32) × (Nat → Nat → Int64)) => IV T L K u.1 ∧ EV L K u.2.2.1 ∧ FI [(9, 1), (9, 2)] K I u.1 ∧ (True)) (fun u t => Ex G (va_A (WC cy L K R I J E B) sz) (WC cy L K R u.1 u.2.1 u.2.2.1 u.2.2.2) t) (va_A (WC cy L K R I J E B) sz)) 0 0 (va_A (WC cy L K R I J E B) sz) := by
  have h_deal : deal ∈ L ∧ K deal = 9 := ⟨h_deal1, h_deal2⟩
  refine Met.ofW (cc := cX1_pick) (maxL := 5) (ret := none) (by decide) rfl ?_
  intro p e s m args below meth c s₁ B9 hml hv9
  obtain ⟨rfl, hsz, hP, hK, hD0, hN⟩ := hv9
  have hx := B9.exec
  have hb := B9.bytes
  have hr := B9.returns
  have hts := atoms_spec (ws := .code yX1_pick cX1_pick 5 none :: TBg) B9.pre
  have ht : ∀ w ∈ TBg, w.before _ s = true := fun w h => hts w (List.mem_cons_of_mem _ h)
  have hown : s.vm.findClass RX1 = some m.cls := findClass_of_methodNamed B9.named
  have hlocks := B9.notSynchronized
  subst hsz
  have hD := hD0.self (sz := s.heap.size)
  generalize hAe : va_A (WC cy L K R I J E B) s.heap.size = A at hD ⊢
  have hA : ∀ q : Nat, s.heap.size ≤ q → A q := fun q h => by rw [← hAe]; exact Or.inr h
  have hS : va_S A s.heap s.heap [] := va_S.rf
  have hl := lv_entry ([.ref deal, .int n, .int n2, .int n3]) (n := 5) (Nat.le_of_ble_eq_true rfl)
  rw [lg_entry_eq]
  generalize (lg_sl ([.ref deal, .int n, .int n2, .int n3]) ++ List.replicate (5 - (lg_sl ([.ref deal, .int n, .int n2, .int n3])).length) Slot.unset).toArray = ls at hl ⊢
  have hl : lv_has ls 5 [(0, .ref deal), (1, .int n), (2, .int n2), (3, .int n3)] := hl
  have z0 : (0 : Int32).toInt = 0 := by decide
  have z1 : (1 : Int32).toInt = 1 := by decide
  have z2 : (14 : Int32).toInt = 14 := by decide
  have hC_0 : FI [(9, 1), (9, 2)] K I I := FI.rf
  refine lv_iload_n hx hb dX1_pick_0 rfl (lv_at hl 3 rfl) ?_
  refine lv_iload_n hx hb dX1_pick_1 rfl (lv_at hl 1 rfl) ?_
  refine lv_iadd hx hb dX1_pick_2 ?_
  refine lv_topi (fun v_1 ev_1 => ?_)
  refine lv_aload_n hx hb dX1_pick_3 rfl (lv_at hl 0 rfl) ?_
  refine cg_9_2_1 hx hb ht hown hK hN hP h_deal.1 h_deal.2 dX1_pick_4 ?_
  refine lv_icmp_gt (tgt := 11) hx hb dX1_pick_7 (by decide) (fun c_2 => ?_) (fun c_2 => ?_)
  · have q_3 : (I deal 2).toInt < v_1.toInt := (ow_lt _ _).mp c_2
    refine lv_iload_n hx hb dX1_pick_11 rfl (lv_at hl 1 rfl) ?_
    refine lv_iconst (v := 1) hx hb dX1_pick_12 (by decide) ?_
    refine lv_icmp_lt (tgt := 25) hx hb dX1_pick_13 (by decide) (fun c_4 => ?_) (fun c_4 => ?_)
    · have q_5 : n.toInt < (1 : Int32).toInt := (ow_lt _ _).mp c_4
      refine lv_aload_n hx hb dX1_pick_25 rfl (lv_at hl 0 rfl) ?_
      refine lv_iload_n hx hb dX1_pick_26 rfl (lv_at hl 2 rfl) ?_
      refine cp_9_1_1 hx hb ht hown hK hN hP hD hS h_deal.1 h_deal.2 dX1_pick_27 (fun H locs hP hD hS => ?_)
      replace hI := IV.up hI h_deal.2 1 (ow_any n2)
      have f_6 : FI [(9, 1)] K I (va_up I deal (va_up (I deal) 1 n2)) := FI.up h_deal.2 1 n2
      have e_7 : (va_up I deal (va_up (I deal) 1 n2)) deal 1 = n2 := FI.at I deal 1 n2
      replace hC_0 := FI.tr hC_0 f_6 (by decide)
      generalize (va_up I deal (va_up (I deal) 1 n2)) = I_8 at hP hD hI f_6 e_7 hC_0
      refine lv_aload_n hx hb dX1_pick_30 rfl (lv_at hl 0 rfl) ?_
      refine lv_iload_n hx hb dX1_pick_31 rfl (lv_at hl 3 rfl) ?_
      refine cp_9_2_1 hx hb ht hown hK hN hP hD hS h_deal.1 h_deal.2 dX1_pick_32 (fun H locs hP hD hS => ?_)
      replace hI := IV.up hI h_deal.2 2 (ow_any n3)
      have f_9 : FI [(9, 2)] K I_8 (va_up I_8 deal (va_up (I_8 deal) 2 n3)) := FI.up h_deal.2 2 n3
      have e_10 : (va_up I_8 deal (va_up (I_8 deal) 2 n3)) deal 2 = n3 := FI.at I_8 deal 2 n3
      replace hC_0 := FI.tr hC_0 f_9 (by decide)
      generalize (va_up I_8 deal (va_up (I_8 deal) 2 n3)) = I_11 at hP hD hI f_9 e_10 hC_0
      refine W.widen (k := 0) (n := 0) (Nat.le_of_ble_eq_true rfl) (Nat.le_of_ble_eq_true rfl) ?_
      exact W.vret hx hb hr (fun t ht9 hW => ⟨⟨(I_11, J, E, B), rfl, ⟨hI, hE, hC_0, trivial⟩, ⟨by rw [ht9]; exact hP, hD⟩⟩, hS.F ht9⟩) hS.2.2 dX1_pick_35
    · have q_12 : (1 : Int32).toInt ≤ n.toInt := by have := (not_congr (ow_lt _ _)).mp c_4; omega
      refine lv_iload_n hx hb dX1_pick_16 rfl (lv_at hl 1 rfl) ?_
      refine lv_aload_n hx hb dX1_pick_17 rfl (lv_at hl 0 rfl) ?_
      refine cg_9_0_1 hx hb ht hown hK hN hP h_deal.1 h_deal.2 dX1_pick_18 ?_
      have hm_13 : (R deal 0) ∈ L ∧ K (R deal 0) = 39 := RT.o hRT h_deal.1 h_deal.2 0 (by decide)
      refine cn_39 hx hb hK hP hm_13.1 hm_13.2 dX1_pick_21 ?_
      refine lv_icmp_le (tgt := 36) hx hb dX1_pick_22 (by decide) (fun c_14 => ?_) (fun c_14 => ?_)
      · have q_15 : n.toInt ≤ (14 : Int32).toInt := (ow_le _ _).mp c_14
        refine lv_iload_n hx hb dX1_pick_36 rfl (lv_at hl 1 rfl) ?_
        refine lv_iconst (v := 1) hx hb dX1_pick_37 (by decide) ?_
        refine lv_isub hx hb dX1_pick_38 ?_
        refine lv_topi (fun v_16 ev_16 => ?_)
        have q_17 : v_16.toInt = n.toInt - (1 : Int32).toInt := ow_sub ev_16 (by omega) (by omega)
        refine lv_istore (lv' := [(4, .int v_16), (0, .ref deal), (1, .int n), (2, .int n2), (3, .int n3)]) hx hb dX1_pick_39 hl (by decide) rfl (fun ls hl => ?_)
        refine lv_aload_n hx hb dX1_pick_41 rfl (lv_at hl 1 rfl) ?_
        refine lv_iload hx hb dX1_pick_42 (lv_at hl 0 rfl) ?_
        refine lv_iload_n hx hb dX1_pick_44 rfl (lv_at hl 3 rfl) ?_
        refine lv_iload_n hx hb dX1_pick_45 rfl (lv_at hl 4 rfl) ?_
        have hFc := fr_free hD hS hA
        refine va_callv (va_runS (As := [.ref deal, .int v_16, .int n2, .int n3]) (rest := []) ⟨hx, hb, hml, hown, ht⟩ (c_pick7 l G cy _ L K R T I E J B deal v_16 n2 n3 hRT hI hE h_deal.1 h_deal.2 (by omega)) (va_cwS 4 ht (gs k_492 k_493 k_494 k_491) rfl rfl rfl (by decide +kernel) ⟨Nat.le_of_ble_eq_true rfl, Nat.le_of_ble_eq_true rfl⟩) ⟨En.blind, fun U hU hW => ⟨rfl, En.of hU hW hP hK hD hN⟩⟩ rfl rfl hl.1 rfl (lv_room (Nat.le_of_ble_eq_true rfl)) dX1_pick_46 ⟨Nat.le_of_ble_eq_true rfl, Nat.le_of_ble_eq_true rfl⟩) hS (fun q _ h => hFc q h) hFc (fun u_18 t9 H locs ht9 hvm hw hB hz1 hk1 hS => ?_)
        obtain ⟨I18, J18, E18, B18⟩ := u_18
        obtain ⟨hP1, hD1⟩ := hB
        rw [ht9] at hP1
        clear hI hE
        obtain ⟨hI, hE, xu_18I, wu_18⟩ := hw
        dsimp only at hI hE xu_18I wu_18
        have hP : va_P G vwCl (WC cy L K R I18 J18 E18 B18) H := hP1
        have hD : va_D A (WC cy L K R I18 J18 E18 B18) := hD1.weaken (fun _ _ _ h => hFc _ h)
        clear hFc hk1 hz1 hP1 hD1
        replace hC_0 := FI.tr hC_0 xu_18I (by decide)
        refine lv_aload_n hx hb dX1_pick_49 rfl (lv_at hl 1 rfl) ?_
        refine cg_9_0_1 hx hb ht hown hK hN hP h_deal.1 h_deal.2 dX1_pick_50 ?_
        refine lv_iload hx hb dX1_pick_53 (lv_at hl 0 rfl) ?_
        have q_19 : vp_in v_16 14 := vp_in_iff.mpr ⟨by omega, by omega⟩
        refine cl_39 hx hb hK hP hm_13.1 hm_13.2 q_19 dX1_pick_55 ?_
        refine lv_topi (fun v_20 ev_20 => ?_)
        refine lv_iload_n hx hb dX1_pick_56 rfl (lv_at hl 3 rfl) ?_
        refine lv_iand hx hb dX1_pick_57 ?_
        refine lv_topi (fun v_21 ev_21 => ?_)
        refine lv_if_ne (tgt := 76) hx hb dX1_pick_58 (by decide) (fun c_22 => ?_) (fun c_22 => ?_)
        · have q_23 : ¬ v_21.toInt = (0 : Int32).toInt := by have := (not_congr (ow_eq _ _)).mp c_22; omega
          refine W.widen (k := 0) (n := 0) (Nat.le_of_ble_eq_true rfl) (Nat.le_of_ble_eq_true rfl) ?_
          exact W.vret hx hb hr (fun t ht9 hW => ⟨⟨(I18, J18, E18, B18), rfl, ⟨hI, hE, hC_0, trivial⟩, ⟨by rw [ht9]; exact hP, hD⟩⟩, hS.F ht9⟩) hS.2.2 dX1_pick_76
        · have q_24 : v_21.toInt = (0 : Int32).toInt := (ow_eq _ _).mp c_22
          refine lv_aload_n hx hb dX1_pick_61 rfl (lv_at hl 1 rfl) ?_
          refine lv_iload hx hb dX1_pick_62 (lv_at hl 0 rfl) ?_
          refine lv_iload_n hx hb dX1_pick_64 rfl (lv_at hl 3 rfl) ?_
          refine lv_iconst (v := 1) hx hb dX1_pick_65 (by decide) ?_
          refine lv_iload hx hb dX1_pick_66 (lv_at hl 0 rfl) ?_
          refine lv_ishl hx hb dX1_pick_68 ?_
          refine lv_topi (fun v_25 ev_25 => ?_)
          refine lv_ior hx hb dX1_pick_69 ?_
          refine lv_topi (fun v_26 ev_26 => ?_)
          refine lv_iload_n hx hb dX1_pick_70 rfl (lv_at hl 4 rfl) ?_
          refine lv_iconst (v := 1) hx hb dX1_pick_71 (by decide) ?_
          refine lv_iadd hx hb dX1_pick_72 ?_
          refine lv_topi (fun v_27 ev_27 => ?_)
          have hFc := fr_free hD hS hA
          refine va_callv (va_runS (As := [.ref deal, .int v_16, .int v_26, .int v_27]) (rest := []) ⟨hx, hb, hml, hown, ht⟩ (c_pick7 l G cy _ L K R T I18 E18 J18 B18 deal v_16 v_26 v_27 hRT hI hE h_deal.1 h_deal.2 (by omega)) (va_cwS 4 ht (gs k_492 k_493 k_494 k_491) rfl rfl rfl (by decide +kernel) ⟨Nat.le_of_ble_eq_true rfl, Nat.le_of_ble_eq_true rfl⟩) ⟨En.blind, fun U hU hW => ⟨rfl, En.of hU hW hP hK hD hN⟩⟩ rfl rfl hl.1 rfl (lv_room (Nat.le_of_ble_eq_true rfl)) dX1_pick_73 ⟨Nat.le_of_ble_eq_true rfl, Nat.le_of_ble_eq_true rfl⟩) hS (fun q _ h => hFc q h) hFc (fun u_28 t9 H locs ht9 hvm hw hB hz1 hk1 hS => ?_)
          obtain ⟨I28, J28, E28, B28⟩ := u_28
          obtain ⟨hP1, hD1⟩ := hB
          rw [ht9] at hP1
          clear hI hE
          obtain ⟨hI, hE, xu_28I, wu_28⟩ := hw
          dsimp only at hI hE xu_28I wu_28
          have hP : va_P G vwCl (WC cy L K R I28 J28 E28 B28) H := hP1
          have hD : va_D A (WC cy L K R I28 J28 E28 B28) := hD1.weaken (fun _ _ _ h => hFc _ h)
          clear hFc hk1 hz1 hP1 hD1
          replace hC_0 := FI.tr hC_0 xu_28I (by decide)
          refine W.widen (k := 0) (n := 0) (Nat.le_of_ble_eq_true rfl) (Nat.le_of_ble_eq_true rfl) ?_
          exact W.vret hx hb hr (fun t ht9 hW => ⟨⟨(I28, J28, E28, B28), rfl, ⟨hI, hE, hC_0, trivial⟩, ⟨by rw [ht9]; exact hP, hD⟩⟩, hS.F ht9⟩) hS.2.2 dX1_pick_76
      · have q_29 : (14 : Int32).toInt < n.toInt := by have := (not_congr (ow_le _ _)).mp c_14; omega
        exfalso
        omega
  · have q_30 : v_1.toInt ≤ (I deal 2).toInt := by have := (not_congr (ow_lt _ _)).mp c_2; omega
    refine W.widen (k := 0) (n := 0) (Nat.le_of_ble_eq_true rfl) (Nat.le_of_ble_eq_true rfl) ?_
    exact W.vret hx hb hr (fun t ht9 hW => ⟨⟨(I, J, E, B), rfl, ⟨hI, hE, hC_0, trivial⟩, ⟨by rw [ht9]; exact hP, hD⟩⟩, hS.F ht9⟩) hS.2.2 dX1_pick_10
set_option maxHeartbeats 4000000 in
set_option maxRecDepth 100000 in
theorem c_pick9 (l : Launch) (G : va_G) (cy : Nat → ClassId) (sz : Nat) (L : List Nat) (K : Nat → Nat) (R : Nat → Nat → Nat) (T : Int) (I E : Nat → Nat → Int32) (J B : Nat → Nat → Int64) (deal : Nat) (n : Int32) (n2 : Int32) (n3 : Int32) (hRT : RT L K R) (hI : IV T L K I) (hE : EV L K E) (h_deal1 : deal ∈ L) (h_deal2 : K deal = 9) (h_n : -2147483648 ≤ n.toInt ∧ n.toInt ≤ 9) : Met l yX1_pick (.code yX1_pick cX1_pick 5 none :: TBg) ({ frames := 10, cells := 0, slots := 0, locals := 640 }) (va_Pc [.ref deal, .int n, .int n2, .int n3] (En G cy (WC cy L K R I J E B) sz)) (va_Qv (fun (u : (Nat → Nat → Int32) × (Nat → Nat → Int64) × (Nat → Nat → Int32) × (Nat → Nat → Int64)) => IV T L K u.1 ∧ EV L K u.2.2.1 ∧ FI [(9, 1), (9, 2)] K I u.1 ∧ (True)) (fun u t => Ex G (va_A (WC cy L K R I J E B) sz) (WC cy L K R u.1 u.2.1 u.2.2.1 u.2.2.2) t) (va_A (WC cy L K R I J E B) sz)) 0 0 (va_A (WC cy L K R I J E B) sz) := by
  have h_deal : deal ∈ L ∧ K deal = 9 := ⟨h_deal1, h_deal2⟩
  refine Met.ofW (cc := cX1_pick) (maxL := 5) (ret := none) (by decide) rfl ?_
  intro p e s m args below meth c s₁ B9 hml hv9
  obtain ⟨rfl, hsz, hP, hK, hD0, hN⟩ := hv9
  have hx := B9.exec
  have hb := B9.bytes
  have hr := B9.returns
  have hts := atoms_spec (ws := .code yX1_pick cX1_pick 5 none :: TBg) B9.pre
  have ht : ∀ w ∈ TBg, w.before _ s = true := fun w h => hts w (List.mem_cons_of_mem _ h)
  have hown : s.vm.findClass RX1 = some m.cls := findClass_of_methodNamed B9.named
  have hlocks := B9.notSynchronized
  subst hsz
  have hD := hD0.self (sz := s.heap.size)
  generalize hAe : va_A (WC cy L K R I J E B) s.heap.size = A at hD ⊢
  have hA : ∀ q : Nat, s.heap.size ≤ q → A q := fun q h => by rw [← hAe]; exact Or.inr h
  have hS : va_S A s.heap s.heap [] := va_S.rf
  have hl := lv_entry ([.ref deal, .int n, .int n2, .int n3]) (n := 5) (Nat.le_of_ble_eq_true rfl)
  rw [lg_entry_eq]
  generalize (lg_sl ([.ref deal, .int n, .int n2, .int n3]) ++ List.replicate (5 - (lg_sl ([.ref deal, .int n, .int n2, .int n3])).length) Slot.unset).toArray = ls at hl ⊢
  have hl : lv_has ls 5 [(0, .ref deal), (1, .int n), (2, .int n2), (3, .int n3)] := hl
  have z0 : (0 : Int32).toInt = 0 := by decide
  have z1 : (1 : Int32).toInt = 1 := by decide
  have z2 : (14 : Int32).toInt = 14 := by decide
  have hC_0 : FI [(9, 1), (9, 2)] K I I := FI.rf
  refine lv_iload_n hx hb dX1_pick_0 rfl (lv_at hl 3 rfl) ?_
  refine lv_iload_n hx hb dX1_pick_1 rfl (lv_at hl 1 rfl) ?_
  refine lv_iadd hx hb dX1_pick_2 ?_
  refine lv_topi (fun v_1 ev_1 => ?_)
  refine lv_aload_n hx hb dX1_pick_3 rfl (lv_at hl 0 rfl) ?_
  refine cg_9_2_1 hx hb ht hown hK hN hP h_deal.1 h_deal.2 dX1_pick_4 ?_
  refine lv_icmp_gt (tgt := 11) hx hb dX1_pick_7 (by decide) (fun c_2 => ?_) (fun c_2 => ?_)
  · have q_3 : (I deal 2).toInt < v_1.toInt := (ow_lt _ _).mp c_2
    refine lv_iload_n hx hb dX1_pick_11 rfl (lv_at hl 1 rfl) ?_
    refine lv_iconst (v := 1) hx hb dX1_pick_12 (by decide) ?_
    refine lv_icmp_lt (tgt := 25) hx hb dX1_pick_13 (by decide) (fun c_4 => ?_) (fun c_4 => ?_)
    · have q_5 : n.toInt < (1 : Int32).toInt := (ow_lt _ _).mp c_4
      refine lv_aload_n hx hb dX1_pick_25 rfl (lv_at hl 0 rfl) ?_
      refine lv_iload_n hx hb dX1_pick_26 rfl (lv_at hl 2 rfl) ?_
      refine cp_9_1_1 hx hb ht hown hK hN hP hD hS h_deal.1 h_deal.2 dX1_pick_27 (fun H locs hP hD hS => ?_)
      replace hI := IV.up hI h_deal.2 1 (ow_any n2)
      have f_6 : FI [(9, 1)] K I (va_up I deal (va_up (I deal) 1 n2)) := FI.up h_deal.2 1 n2
      have e_7 : (va_up I deal (va_up (I deal) 1 n2)) deal 1 = n2 := FI.at I deal 1 n2
      replace hC_0 := FI.tr hC_0 f_6 (by decide)
      generalize (va_up I deal (va_up (I deal) 1 n2)) = I_8 at hP hD hI f_6 e_7 hC_0
      refine lv_aload_n hx hb dX1_pick_30 rfl (lv_at hl 0 rfl) ?_
      refine lv_iload_n hx hb dX1_pick_31 rfl (lv_at hl 3 rfl) ?_
      refine cp_9_2_1 hx hb ht hown hK hN hP hD hS h_deal.1 h_deal.2 dX1_pick_32 (fun H locs hP hD hS => ?_)
      replace hI := IV.up hI h_deal.2 2 (ow_any n3)
      have f_9 : FI [(9, 2)] K I_8 (va_up I_8 deal (va_up (I_8 deal) 2 n3)) := FI.up h_deal.2 2 n3
      have e_10 : (va_up I_8 deal (va_up (I_8 deal) 2 n3)) deal 2 = n3 := FI.at I_8 deal 2 n3
      replace hC_0 := FI.tr hC_0 f_9 (by decide)
      generalize (va_up I_8 deal (va_up (I_8 deal) 2 n3)) = I_11 at hP hD hI f_9 e_10 hC_0
      refine W.widen (k := 0) (n := 0) (Nat.le_of_ble_eq_true rfl) (Nat.le_of_ble_eq_true rfl) ?_
      exact W.vret hx hb hr (fun t ht9 hW => ⟨⟨(I_11, J, E, B), rfl, ⟨hI, hE, hC_0, trivial⟩, ⟨by rw [ht9]; exact hP, hD⟩⟩, hS.F ht9⟩) hS.2.2 dX1_pick_35
    · have q_12 : (1 : Int32).toInt ≤ n.toInt := by have := (not_congr (ow_lt _ _)).mp c_4; omega
      refine lv_iload_n hx hb dX1_pick_16 rfl (lv_at hl 1 rfl) ?_
      refine lv_aload_n hx hb dX1_pick_17 rfl (lv_at hl 0 rfl) ?_
      refine cg_9_0_1 hx hb ht hown hK hN hP h_deal.1 h_deal.2 dX1_pick_18 ?_
      have hm_13 : (R deal 0) ∈ L ∧ K (R deal 0) = 39 := RT.o hRT h_deal.1 h_deal.2 0 (by decide)
      refine cn_39 hx hb hK hP hm_13.1 hm_13.2 dX1_pick_21 ?_
      refine lv_icmp_le (tgt := 36) hx hb dX1_pick_22 (by decide) (fun c_14 => ?_) (fun c_14 => ?_)
      · have q_15 : n.toInt ≤ (14 : Int32).toInt := (ow_le _ _).mp c_14
        refine lv_iload_n hx hb dX1_pick_36 rfl (lv_at hl 1 rfl) ?_
        refine lv_iconst (v := 1) hx hb dX1_pick_37 (by decide) ?_
        refine lv_isub hx hb dX1_pick_38 ?_
        refine lv_topi (fun v_16 ev_16 => ?_)
        have q_17 : v_16.toInt = n.toInt - (1 : Int32).toInt := ow_sub ev_16 (by omega) (by omega)
        refine lv_istore (lv' := [(4, .int v_16), (0, .ref deal), (1, .int n), (2, .int n2), (3, .int n3)]) hx hb dX1_pick_39 hl (by decide) rfl (fun ls hl => ?_)
        refine lv_aload_n hx hb dX1_pick_41 rfl (lv_at hl 1 rfl) ?_
        refine lv_iload hx hb dX1_pick_42 (lv_at hl 0 rfl) ?_
        refine lv_iload_n hx hb dX1_pick_44 rfl (lv_at hl 3 rfl) ?_
        refine lv_iload_n hx hb dX1_pick_45 rfl (lv_at hl 4 rfl) ?_
        have hFc := fr_free hD hS hA
        refine va_callv (va_runS (As := [.ref deal, .int v_16, .int n2, .int n3]) (rest := []) ⟨hx, hb, hml, hown, ht⟩ (c_pick8 l G cy _ L K R T I E J B deal v_16 n2 n3 hRT hI hE h_deal.1 h_deal.2 (by omega)) (va_cwS 4 ht (gs k_492 k_493 k_494 k_491) rfl rfl rfl (by decide +kernel) ⟨Nat.le_of_ble_eq_true rfl, Nat.le_of_ble_eq_true rfl⟩) ⟨En.blind, fun U hU hW => ⟨rfl, En.of hU hW hP hK hD hN⟩⟩ rfl rfl hl.1 rfl (lv_room (Nat.le_of_ble_eq_true rfl)) dX1_pick_46 ⟨Nat.le_of_ble_eq_true rfl, Nat.le_of_ble_eq_true rfl⟩) hS (fun q _ h => hFc q h) hFc (fun u_18 t9 H locs ht9 hvm hw hB hz1 hk1 hS => ?_)
        obtain ⟨I18, J18, E18, B18⟩ := u_18
        obtain ⟨hP1, hD1⟩ := hB
        rw [ht9] at hP1
        clear hI hE
        obtain ⟨hI, hE, xu_18I, wu_18⟩ := hw
        dsimp only at hI hE xu_18I wu_18
        have hP : va_P G vwCl (WC cy L K R I18 J18 E18 B18) H := hP1
        have hD : va_D A (WC cy L K R I18 J18 E18 B18) := hD1.weaken (fun _ _ _ h => hFc _ h)
        clear hFc hk1 hz1 hP1 hD1
        replace hC_0 := FI.tr hC_0 xu_18I (by decide)
        refine lv_aload_n hx hb dX1_pick_49 rfl (lv_at hl 1 rfl) ?_
        refine cg_9_0_1 hx hb ht hown hK hN hP h_deal.1 h_deal.2 dX1_pick_50 ?_
        refine lv_iload hx hb dX1_pick_53 (lv_at hl 0 rfl) ?_
        have q_19 : vp_in v_16 14 := vp_in_iff.mpr ⟨by omega, by omega⟩
        refine cl_39 hx hb hK hP hm_13.1 hm_13.2 q_19 dX1_pick_55 ?_
        refine lv_topi (fun v_20 ev_20 => ?_)
        refine lv_iload_n hx hb dX1_pick_56 rfl (lv_at hl 3 rfl) ?_
        refine lv_iand hx hb dX1_pick_57 ?_
        refine lv_topi (fun v_21 ev_21 => ?_)
        refine lv_if_ne (tgt := 76) hx hb dX1_pick_58 (by decide) (fun c_22 => ?_) (fun c_22 => ?_)
        · have q_23 : ¬ v_21.toInt = (0 : Int32).toInt := by have := (not_congr (ow_eq _ _)).mp c_22; omega
          refine W.widen (k := 0) (n := 0) (Nat.le_of_ble_eq_true rfl) (Nat.le_of_ble_eq_true rfl) ?_
          exact W.vret hx hb hr (fun t ht9 hW => ⟨⟨(I18, J18, E18, B18), rfl, ⟨hI, hE, hC_0, trivial⟩, ⟨by rw [ht9]; exact hP, hD⟩⟩, hS.F ht9⟩) hS.2.2 dX1_pick_76
        · have q_24 : v_21.toInt = (0 : Int32).toInt := (ow_eq _ _).mp c_22
          refine lv_aload_n hx hb dX1_pick_61 rfl (lv_at hl 1 rfl) ?_
          refine lv_iload hx hb dX1_pick_62 (lv_at hl 0 rfl) ?_
          refine lv_iload_n hx hb dX1_pick_64 rfl (lv_at hl 3 rfl) ?_
          refine lv_iconst (v := 1) hx hb dX1_pick_65 (by decide) ?_
          refine lv_iload hx hb dX1_pick_66 (lv_at hl 0 rfl) ?_
          refine lv_ishl hx hb dX1_pick_68 ?_
          refine lv_topi (fun v_25 ev_25 => ?_)
          refine lv_ior hx hb dX1_pick_69 ?_
          refine lv_topi (fun v_26 ev_26 => ?_)
          refine lv_iload_n hx hb dX1_pick_70 rfl (lv_at hl 4 rfl) ?_
          refine lv_iconst (v := 1) hx hb dX1_pick_71 (by decide) ?_
          refine lv_iadd hx hb dX1_pick_72 ?_
          refine lv_topi (fun v_27 ev_27 => ?_)
          have hFc := fr_free hD hS hA
          refine va_callv (va_runS (As := [.ref deal, .int v_16, .int v_26, .int v_27]) (rest := []) ⟨hx, hb, hml, hown, ht⟩ (c_pick8 l G cy _ L K R T I18 E18 J18 B18 deal v_16 v_26 v_27 hRT hI hE h_deal.1 h_deal.2 (by omega)) (va_cwS 4 ht (gs k_492 k_493 k_494 k_491) rfl rfl rfl (by decide +kernel) ⟨Nat.le_of_ble_eq_true rfl, Nat.le_of_ble_eq_true rfl⟩) ⟨En.blind, fun U hU hW => ⟨rfl, En.of hU hW hP hK hD hN⟩⟩ rfl rfl hl.1 rfl (lv_room (Nat.le_of_ble_eq_true rfl)) dX1_pick_73 ⟨Nat.le_of_ble_eq_true rfl, Nat.le_of_ble_eq_true rfl⟩) hS (fun q _ h => hFc q h) hFc (fun u_28 t9 H locs ht9 hvm hw hB hz1 hk1 hS => ?_)
          obtain ⟨I28, J28, E28, B28⟩ := u_28
          obtain ⟨hP1, hD1⟩ := hB
          rw [ht9] at hP1
          clear hI hE
          obtain ⟨hI, hE, xu_28I, wu_28⟩ := hw
          dsimp only at hI hE xu_28I wu_28
          have hP : va_P G vwCl (WC cy L K R I28 J28 E28 B28) H := hP1
          have hD : va_D A (WC cy L K R I28 J28 E28 B28) := hD1.weaken (fun _ _ _ h => hFc _ h)
          clear hFc hk1 hz1 hP1 hD1
          replace hC_0 := FI.tr hC_0 xu_28I (by decide)
          refine W.widen (k := 0) (n := 0) (Nat.le_of_ble_eq_true rfl) (Nat.le_of_ble_eq_true rfl) ?_
          exact W.vret hx hb hr (fun t ht9 hW => ⟨⟨(I28, J28, E28, B28), rfl, ⟨hI, hE, hC_0, trivial⟩, ⟨by rw [ht9]; exact hP, hD⟩⟩, hS.F ht9⟩) hS.2.2 dX1_pick_76
      · have q_29 : (14 : Int32).toInt < n.toInt := by have := (not_congr (ow_le _ _)).mp c_14; omega
        exfalso
        omega
  · have q_30 : v_1.toInt ≤ (I deal 2).toInt := by have := (not_congr (ow_lt _ _)).mp c_2; omega
    refine W.widen (k := 0) (n := 0) (Nat.le_of_ble_eq_true rfl) (Nat.le_of_ble_eq_true rfl) ?_
    exact W.vret hx hb hr (fun t ht9 hW => ⟨⟨(I, J, E, B), rfl, ⟨hI, hE, hC_0, trivial⟩, ⟨by rw [ht9]; exact hP, hD⟩⟩, hS.F ht9⟩) hS.2.2 dX1_pick_10
set_option maxHeartbeats 4000000 in
set_option maxRecDepth 100000 in
theorem c_pick10 (l : Launch) (G : va_G) (cy : Nat → ClassId) (sz : Nat) (L : List Nat) (K : Nat → Nat) (R : Nat → Nat → Nat) (T : Int) (I E : Nat → Nat → Int32) (J B : Nat → Nat → Int64) (deal : Nat) (n : Int32) (n2 : Int32) (n3 : Int32) (hRT : RT L K R) (hI : IV T L K I) (hE : EV L K E) (h_deal1 : deal ∈ L) (h_deal2 : K deal = 9) (h_n : -2147483648 ≤ n.toInt ∧ n.toInt ≤ 10) : Met l yX1_pick (.code yX1_pick cX1_pick 5 none :: TBg) ({ frames := 11, cells := 0, slots := 0, locals := 704 }) (va_Pc [.ref deal, .int n, .int n2, .int n3] (En G cy (WC cy L K R I J E B) sz)) (va_Qv (fun (u : (Nat → Nat → Int32) × (Nat → Nat → Int64) × (Nat → Nat → Int32) × (Nat → Nat → Int64)) => IV T L K u.1 ∧ EV L K u.2.2.1 ∧ FI [(9, 1), (9, 2)] K I u.1 ∧ (True)) (fun u t => Ex G (va_A (WC cy L K R I J E B) sz) (WC cy L K R u.1 u.2.1 u.2.2.1 u.2.2.2) t) (va_A (WC cy L K R I J E B) sz)) 0 0 (va_A (WC cy L K R I J E B) sz) := by
  have h_deal : deal ∈ L ∧ K deal = 9 := ⟨h_deal1, h_deal2⟩
  refine Met.ofW (cc := cX1_pick) (maxL := 5) (ret := none) (by decide) rfl ?_
  intro p e s m args below meth c s₁ B9 hml hv9
  obtain ⟨rfl, hsz, hP, hK, hD0, hN⟩ := hv9
  have hx := B9.exec
  have hb := B9.bytes
  have hr := B9.returns
  have hts := atoms_spec (ws := .code yX1_pick cX1_pick 5 none :: TBg) B9.pre
  have ht : ∀ w ∈ TBg, w.before _ s = true := fun w h => hts w (List.mem_cons_of_mem _ h)
  have hown : s.vm.findClass RX1 = some m.cls := findClass_of_methodNamed B9.named
  have hlocks := B9.notSynchronized
  subst hsz
  have hD := hD0.self (sz := s.heap.size)
  generalize hAe : va_A (WC cy L K R I J E B) s.heap.size = A at hD ⊢
  have hA : ∀ q : Nat, s.heap.size ≤ q → A q := fun q h => by rw [← hAe]; exact Or.inr h
  have hS : va_S A s.heap s.heap [] := va_S.rf
  have hl := lv_entry ([.ref deal, .int n, .int n2, .int n3]) (n := 5) (Nat.le_of_ble_eq_true rfl)
  rw [lg_entry_eq]
  generalize (lg_sl ([.ref deal, .int n, .int n2, .int n3]) ++ List.replicate (5 - (lg_sl ([.ref deal, .int n, .int n2, .int n3])).length) Slot.unset).toArray = ls at hl ⊢
  have hl : lv_has ls 5 [(0, .ref deal), (1, .int n), (2, .int n2), (3, .int n3)] := hl
  have z0 : (0 : Int32).toInt = 0 := by decide
  have z1 : (1 : Int32).toInt = 1 := by decide
  have z2 : (14 : Int32).toInt = 14 := by decide
  have hC_0 : FI [(9, 1), (9, 2)] K I I := FI.rf
  refine lv_iload_n hx hb dX1_pick_0 rfl (lv_at hl 3 rfl) ?_
  refine lv_iload_n hx hb dX1_pick_1 rfl (lv_at hl 1 rfl) ?_
  refine lv_iadd hx hb dX1_pick_2 ?_
  refine lv_topi (fun v_1 ev_1 => ?_)
  refine lv_aload_n hx hb dX1_pick_3 rfl (lv_at hl 0 rfl) ?_
  refine cg_9_2_1 hx hb ht hown hK hN hP h_deal.1 h_deal.2 dX1_pick_4 ?_
  refine lv_icmp_gt (tgt := 11) hx hb dX1_pick_7 (by decide) (fun c_2 => ?_) (fun c_2 => ?_)
  · have q_3 : (I deal 2).toInt < v_1.toInt := (ow_lt _ _).mp c_2
    refine lv_iload_n hx hb dX1_pick_11 rfl (lv_at hl 1 rfl) ?_
    refine lv_iconst (v := 1) hx hb dX1_pick_12 (by decide) ?_
    refine lv_icmp_lt (tgt := 25) hx hb dX1_pick_13 (by decide) (fun c_4 => ?_) (fun c_4 => ?_)
    · have q_5 : n.toInt < (1 : Int32).toInt := (ow_lt _ _).mp c_4
      refine lv_aload_n hx hb dX1_pick_25 rfl (lv_at hl 0 rfl) ?_
      refine lv_iload_n hx hb dX1_pick_26 rfl (lv_at hl 2 rfl) ?_
      refine cp_9_1_1 hx hb ht hown hK hN hP hD hS h_deal.1 h_deal.2 dX1_pick_27 (fun H locs hP hD hS => ?_)
      replace hI := IV.up hI h_deal.2 1 (ow_any n2)
      have f_6 : FI [(9, 1)] K I (va_up I deal (va_up (I deal) 1 n2)) := FI.up h_deal.2 1 n2
      have e_7 : (va_up I deal (va_up (I deal) 1 n2)) deal 1 = n2 := FI.at I deal 1 n2
      replace hC_0 := FI.tr hC_0 f_6 (by decide)
      generalize (va_up I deal (va_up (I deal) 1 n2)) = I_8 at hP hD hI f_6 e_7 hC_0
      refine lv_aload_n hx hb dX1_pick_30 rfl (lv_at hl 0 rfl) ?_
      refine lv_iload_n hx hb dX1_pick_31 rfl (lv_at hl 3 rfl) ?_
      refine cp_9_2_1 hx hb ht hown hK hN hP hD hS h_deal.1 h_deal.2 dX1_pick_32 (fun H locs hP hD hS => ?_)
      replace hI := IV.up hI h_deal.2 2 (ow_any n3)
      have f_9 : FI [(9, 2)] K I_8 (va_up I_8 deal (va_up (I_8 deal) 2 n3)) := FI.up h_deal.2 2 n3
      have e_10 : (va_up I_8 deal (va_up (I_8 deal) 2 n3)) deal 2 = n3 := FI.at I_8 deal 2 n3
      replace hC_0 := FI.tr hC_0 f_9 (by decide)
      generalize (va_up I_8 deal (va_up (I_8 deal) 2 n3)) = I_11 at hP hD hI f_9 e_10 hC_0
      refine W.widen (k := 0) (n := 0) (Nat.le_of_ble_eq_true rfl) (Nat.le_of_ble_eq_true rfl) ?_
      exact W.vret hx hb hr (fun t ht9 hW => ⟨⟨(I_11, J, E, B), rfl, ⟨hI, hE, hC_0, trivial⟩, ⟨by rw [ht9]; exact hP, hD⟩⟩, hS.F ht9⟩) hS.2.2 dX1_pick_35
    · have q_12 : (1 : Int32).toInt ≤ n.toInt := by have := (not_congr (ow_lt _ _)).mp c_4; omega
      refine lv_iload_n hx hb dX1_pick_16 rfl (lv_at hl 1 rfl) ?_
      refine lv_aload_n hx hb dX1_pick_17 rfl (lv_at hl 0 rfl) ?_
      refine cg_9_0_1 hx hb ht hown hK hN hP h_deal.1 h_deal.2 dX1_pick_18 ?_
      have hm_13 : (R deal 0) ∈ L ∧ K (R deal 0) = 39 := RT.o hRT h_deal.1 h_deal.2 0 (by decide)
      refine cn_39 hx hb hK hP hm_13.1 hm_13.2 dX1_pick_21 ?_
      refine lv_icmp_le (tgt := 36) hx hb dX1_pick_22 (by decide) (fun c_14 => ?_) (fun c_14 => ?_)
      · have q_15 : n.toInt ≤ (14 : Int32).toInt := (ow_le _ _).mp c_14
        refine lv_iload_n hx hb dX1_pick_36 rfl (lv_at hl 1 rfl) ?_
        refine lv_iconst (v := 1) hx hb dX1_pick_37 (by decide) ?_
        refine lv_isub hx hb dX1_pick_38 ?_
        refine lv_topi (fun v_16 ev_16 => ?_)
        have q_17 : v_16.toInt = n.toInt - (1 : Int32).toInt := ow_sub ev_16 (by omega) (by omega)
        refine lv_istore (lv' := [(4, .int v_16), (0, .ref deal), (1, .int n), (2, .int n2), (3, .int n3)]) hx hb dX1_pick_39 hl (by decide) rfl (fun ls hl => ?_)
        refine lv_aload_n hx hb dX1_pick_41 rfl (lv_at hl 1 rfl) ?_
        refine lv_iload hx hb dX1_pick_42 (lv_at hl 0 rfl) ?_
        refine lv_iload_n hx hb dX1_pick_44 rfl (lv_at hl 3 rfl) ?_
        refine lv_iload_n hx hb dX1_pick_45 rfl (lv_at hl 4 rfl) ?_
        have hFc := fr_free hD hS hA
        refine va_callv (va_runS (As := [.ref deal, .int v_16, .int n2, .int n3]) (rest := []) ⟨hx, hb, hml, hown, ht⟩ (c_pick9 l G cy _ L K R T I E J B deal v_16 n2 n3 hRT hI hE h_deal.1 h_deal.2 (by omega)) (va_cwS 4 ht (gs k_492 k_493 k_494 k_491) rfl rfl rfl (by decide +kernel) ⟨Nat.le_of_ble_eq_true rfl, Nat.le_of_ble_eq_true rfl⟩) ⟨En.blind, fun U hU hW => ⟨rfl, En.of hU hW hP hK hD hN⟩⟩ rfl rfl hl.1 rfl (lv_room (Nat.le_of_ble_eq_true rfl)) dX1_pick_46 ⟨Nat.le_of_ble_eq_true rfl, Nat.le_of_ble_eq_true rfl⟩) hS (fun q _ h => hFc q h) hFc (fun u_18 t9 H locs ht9 hvm hw hB hz1 hk1 hS => ?_)
        obtain ⟨I18, J18, E18, B18⟩ := u_18
        obtain ⟨hP1, hD1⟩ := hB
        rw [ht9] at hP1
        clear hI hE
        obtain ⟨hI, hE, xu_18I, wu_18⟩ := hw
        dsimp only at hI hE xu_18I wu_18
        have hP : va_P G vwCl (WC cy L K R I18 J18 E18 B18) H := hP1
        have hD : va_D A (WC cy L K R I18 J18 E18 B18) := hD1.weaken (fun _ _ _ h => hFc _ h)
        clear hFc hk1 hz1 hP1 hD1
        replace hC_0 := FI.tr hC_0 xu_18I (by decide)
        refine lv_aload_n hx hb dX1_pick_49 rfl (lv_at hl 1 rfl) ?_
        refine cg_9_0_1 hx hb ht hown hK hN hP h_deal.1 h_deal.2 dX1_pick_50 ?_
        refine lv_iload hx hb dX1_pick_53 (lv_at hl 0 rfl) ?_
        have q_19 : vp_in v_16 14 := vp_in_iff.mpr ⟨by omega, by omega⟩
        refine cl_39 hx hb hK hP hm_13.1 hm_13.2 q_19 dX1_pick_55 ?_
        refine lv_topi (fun v_20 ev_20 => ?_)
        refine lv_iload_n hx hb dX1_pick_56 rfl (lv_at hl 3 rfl) ?_
        refine lv_iand hx hb dX1_pick_57 ?_
        refine lv_topi (fun v_21 ev_21 => ?_)
        refine lv_if_ne (tgt := 76) hx hb dX1_pick_58 (by decide) (fun c_22 => ?_) (fun c_22 => ?_)
        · have q_23 : ¬ v_21.toInt = (0 : Int32).toInt := by have := (not_congr (ow_eq _ _)).mp c_22; omega
          refine W.widen (k := 0) (n := 0) (Nat.le_of_ble_eq_true rfl) (Nat.le_of_ble_eq_true rfl) ?_
          exact W.vret hx hb hr (fun t ht9 hW => ⟨⟨(I18, J18, E18, B18), rfl, ⟨hI, hE, hC_0, trivial⟩, ⟨by rw [ht9]; exact hP, hD⟩⟩, hS.F ht9⟩) hS.2.2 dX1_pick_76
        · have q_24 : v_21.toInt = (0 : Int32).toInt := (ow_eq _ _).mp c_22
          refine lv_aload_n hx hb dX1_pick_61 rfl (lv_at hl 1 rfl) ?_
          refine lv_iload hx hb dX1_pick_62 (lv_at hl 0 rfl) ?_
          refine lv_iload_n hx hb dX1_pick_64 rfl (lv_at hl 3 rfl) ?_
          refine lv_iconst (v := 1) hx hb dX1_pick_65 (by decide) ?_
          refine lv_iload hx hb dX1_pick_66 (lv_at hl 0 rfl) ?_
          refine lv_ishl hx hb dX1_pick_68 ?_
          refine lv_topi (fun v_25 ev_25 => ?_)
          refine lv_ior hx hb dX1_pick_69 ?_
          refine lv_topi (fun v_26 ev_26 => ?_)
          refine lv_iload_n hx hb dX1_pick_70 rfl (lv_at hl 4 rfl) ?_
          refine lv_iconst (v := 1) hx hb dX1_pick_71 (by decide) ?_
          refine lv_iadd hx hb dX1_pick_72 ?_
          refine lv_topi (fun v_27 ev_27 => ?_)
          have hFc := fr_free hD hS hA
          refine va_callv (va_runS (As := [.ref deal, .int v_16, .int v_26, .int v_27]) (rest := []) ⟨hx, hb, hml, hown, ht⟩ (c_pick9 l G cy _ L K R T I18 E18 J18 B18 deal v_16 v_26 v_27 hRT hI hE h_deal.1 h_deal.2 (by omega)) (va_cwS 4 ht (gs k_492 k_493 k_494 k_491) rfl rfl rfl (by decide +kernel) ⟨Nat.le_of_ble_eq_true rfl, Nat.le_of_ble_eq_true rfl⟩) ⟨En.blind, fun U hU hW => ⟨rfl, En.of hU hW hP hK hD hN⟩⟩ rfl rfl hl.1 rfl (lv_room (Nat.le_of_ble_eq_true rfl)) dX1_pick_73 ⟨Nat.le_of_ble_eq_true rfl, Nat.le_of_ble_eq_true rfl⟩) hS (fun q _ h => hFc q h) hFc (fun u_28 t9 H locs ht9 hvm hw hB hz1 hk1 hS => ?_)
          obtain ⟨I28, J28, E28, B28⟩ := u_28
          obtain ⟨hP1, hD1⟩ := hB
          rw [ht9] at hP1
          clear hI hE
          obtain ⟨hI, hE, xu_28I, wu_28⟩ := hw
          dsimp only at hI hE xu_28I wu_28
          have hP : va_P G vwCl (WC cy L K R I28 J28 E28 B28) H := hP1
          have hD : va_D A (WC cy L K R I28 J28 E28 B28) := hD1.weaken (fun _ _ _ h => hFc _ h)
          clear hFc hk1 hz1 hP1 hD1
          replace hC_0 := FI.tr hC_0 xu_28I (by decide)
          refine W.widen (k := 0) (n := 0) (Nat.le_of_ble_eq_true rfl) (Nat.le_of_ble_eq_true rfl) ?_
          exact W.vret hx hb hr (fun t ht9 hW => ⟨⟨(I28, J28, E28, B28), rfl, ⟨hI, hE, hC_0, trivial⟩, ⟨by rw [ht9]; exact hP, hD⟩⟩, hS.F ht9⟩) hS.2.2 dX1_pick_76
      · have q_29 : (14 : Int32).toInt < n.toInt := by have := (not_congr (ow_le _ _)).mp c_14; omega
        exfalso
        omega
  · have q_30 : v_1.toInt ≤ (I deal 2).toInt := by have := (not_congr (ow_lt _ _)).mp c_2; omega
    refine W.widen (k := 0) (n := 0) (Nat.le_of_ble_eq_true rfl) (Nat.le_of_ble_eq_true rfl) ?_
    exact W.vret hx hb hr (fun t ht9 hW => ⟨⟨(I, J, E, B), rfl, ⟨hI, hE, hC_0, trivial⟩, ⟨by rw [ht9]; exact hP, hD⟩⟩, hS.F ht9⟩) hS.2.2 dX1_pick_10
set_option maxHeartbeats 4000000 in
set_option maxRecDepth 100000 in
theorem c_pick11 (l : Launch) (G : va_G) (cy : Nat → ClassId) (sz : Nat) (L : List Nat) (K : Nat → Nat) (R : Nat → Nat → Nat) (T : Int) (I E : Nat → Nat → Int32) (J B : Nat → Nat → Int64) (deal : Nat) (n : Int32) (n2 : Int32) (n3 : Int32) (hRT : RT L K R) (hI : IV T L K I) (hE : EV L K E) (h_deal1 : deal ∈ L) (h_deal2 : K deal = 9) (h_n : -2147483648 ≤ n.toInt ∧ n.toInt ≤ 11) : Met l yX1_pick (.code yX1_pick cX1_pick 5 none :: TBg) ({ frames := 12, cells := 0, slots := 0, locals := 768 }) (va_Pc [.ref deal, .int n, .int n2, .int n3] (En G cy (WC cy L K R I J E B) sz)) (va_Qv (fun (u : (Nat → Nat → Int32) × (Nat → Nat → Int64) × (Nat → Nat → Int32) × (Nat → Nat → Int64)) => IV T L K u.1 ∧ EV L K u.2.2.1 ∧ FI [(9, 1), (9, 2)] K I u.1 ∧ (True)) (fun u t => Ex G (va_A (WC cy L K R I J E B) sz) (WC cy L K R u.1 u.2.1 u.2.2.1 u.2.2.2) t) (va_A (WC cy L K R I J E B) sz)) 0 0 (va_A (WC cy L K R I J E B) sz) := by
  have h_deal : deal ∈ L ∧ K deal = 9 := ⟨h_deal1, h_deal2⟩
  refine Met.ofW (cc := cX1_pick) (maxL := 5) (ret := none) (by decide) rfl ?_
  intro p e s m args below meth c s₁ B9 hml hv9
  obtain ⟨rfl, hsz, hP, hK, hD0, hN⟩ := hv9
  have hx := B9.exec
  have hb := B9.bytes
  have hr := B9.returns
  have hts := atoms_spec (ws := .code yX1_pick cX1_pick 5 none :: TBg) B9.pre
  have ht : ∀ w ∈ TBg, w.before _ s = true := fun w h => hts w (List.mem_cons_of_mem _ h)
  have hown : s.vm.findClass RX1 = some m.cls := findClass_of_methodNamed B9.named
  have hlocks := B9.notSynchronized
  subst hsz
  have hD := hD0.self (sz := s.heap.size)
  generalize hAe : va_A (WC cy L K R I J E B) s.heap.size = A at hD ⊢
  have hA : ∀ q : Nat, s.heap.size ≤ q → A q := fun q h => by rw [← hAe]; exact Or.inr h
  have hS : va_S A s.heap s.heap [] := va_S.rf
  have hl := lv_entry ([.ref deal, .int n, .int n2, .int n3]) (n := 5) (Nat.le_of_ble_eq_true rfl)
  rw [lg_entry_eq]
  generalize (lg_sl ([.ref deal, .int n, .int n2, .int n3]) ++ List.replicate (5 - (lg_sl ([.ref deal, .int n, .int n2, .int n3])).length) Slot.unset).toArray = ls at hl ⊢
  have hl : lv_has ls 5 [(0, .ref deal), (1, .int n), (2, .int n2), (3, .int n3)] := hl
  have z0 : (0 : Int32).toInt = 0 := by decide
  have z1 : (1 : Int32).toInt = 1 := by decide
  have z2 : (14 : Int32).toInt = 14 := by decide
  have hC_0 : FI [(9, 1), (9, 2)] K I I := FI.rf
  refine lv_iload_n hx hb dX1_pick_0 rfl (lv_at hl 3 rfl) ?_
  refine lv_iload_n hx hb dX1_pick_1 rfl (lv_at hl 1 rfl) ?_
  refine lv_iadd hx hb dX1_pick_2 ?_
  refine lv_topi (fun v_1 ev_1 => ?_)
  refine lv_aload_n hx hb dX1_pick_3 rfl (lv_at hl 0 rfl) ?_
  refine cg_9_2_1 hx hb ht hown hK hN hP h_deal.1 h_deal.2 dX1_pick_4 ?_
  refine lv_icmp_gt (tgt := 11) hx hb dX1_pick_7 (by decide) (fun c_2 => ?_) (fun c_2 => ?_)
  · have q_3 : (I deal 2).toInt < v_1.toInt := (ow_lt _ _).mp c_2
    refine lv_iload_n hx hb dX1_pick_11 rfl (lv_at hl 1 rfl) ?_
    refine lv_iconst (v := 1) hx hb dX1_pick_12 (by decide) ?_
    refine lv_icmp_lt (tgt := 25) hx hb dX1_pick_13 (by decide) (fun c_4 => ?_) (fun c_4 => ?_)
    · have q_5 : n.toInt < (1 : Int32).toInt := (ow_lt _ _).mp c_4
      refine lv_aload_n hx hb dX1_pick_25 rfl (lv_at hl 0 rfl) ?_
      refine lv_iload_n hx hb dX1_pick_26 rfl (lv_at hl 2 rfl) ?_
      refine cp_9_1_1 hx hb ht hown hK hN hP hD hS h_deal.1 h_deal.2 dX1_pick_27 (fun H locs hP hD hS => ?_)
      replace hI := IV.up hI h_deal.2 1 (ow_any n2)
      have f_6 : FI [(9, 1)] K I (va_up I deal (va_up (I deal) 1 n2)) := FI.up h_deal.2 1 n2
      have e_7 : (va_up I deal (va_up (I deal) 1 n2)) deal 1 = n2 := FI.at I deal 1 n2
      replace hC_0 := FI.tr hC_0 f_6 (by decide)
      generalize (va_up I deal (va_up (I deal) 1 n2)) = I_8 at hP hD hI f_6 e_7 hC_0
      refine lv_aload_n hx hb dX1_pick_30 rfl (lv_at hl 0 rfl) ?_
      refine lv_iload_n hx hb dX1_pick_31 rfl (lv_at hl 3 rfl) ?_
      refine cp_9_2_1 hx hb ht hown hK hN hP hD hS h_deal.1 h_deal.2 dX1_pick_32 (fun H locs hP hD hS => ?_)
      replace hI := IV.up hI h_deal.2 2 (ow_any n3)
      have f_9 : FI [(9, 2)] K I_8 (va_up I_8 deal (va_up (I_8 deal) 2 n3)) := FI.up h_deal.2 2 n3
      have e_10 : (va_up I_8 deal (va_up (I_8 deal) 2 n3)) deal 2 = n3 := FI.at I_8 deal 2 n3
      replace hC_0 := FI.tr hC_0 f_9 (by decide)
      generalize (va_up I_8 deal (va_up (I_8 deal) 2 n3)) = I_11 at hP hD hI f_9 e_10 hC_0
      refine W.widen (k := 0) (n := 0) (Nat.le_of_ble_eq_true rfl) (Nat.le_of_ble_eq_true rfl) ?_
      exact W.vret hx hb hr (fun t ht9 hW => ⟨⟨(I_11, J, E, B), rfl, ⟨hI, hE, hC_0, trivial⟩, ⟨by rw [ht9]; exact hP, hD⟩⟩, hS.F ht9⟩) hS.2.2 dX1_pick_35
    · have q_12 : (1 : Int32).toInt ≤ n.toInt := by have := (not_congr (ow_lt _ _)).mp c_4; omega
      refine lv_iload_n hx hb dX1_pick_16 rfl (lv_at hl 1 rfl) ?_
      refine lv_aload_n hx hb dX1_pick_17 rfl (lv_at hl 0 rfl) ?_
      refine cg_9_0_1 hx hb ht hown hK hN hP h_deal.1 h_deal.2 dX1_pick_18 ?_
      have hm_13 : (R deal 0) ∈ L ∧ K (R deal 0) = 39 := RT.o hRT h_deal.1 h_deal.2 0 (by decide)
      refine cn_39 hx hb hK hP hm_13.1 hm_13.2 dX1_pick_21 ?_
      refine lv_icmp_le (tgt := 36) hx hb dX1_pick_22 (by decide) (fun c_14 => ?_) (fun c_14 => ?_)
      · have q_15 : n.toInt ≤ (14 : Int32).toInt := (ow_le _ _).mp c_14
        refine lv_iload_n hx hb dX1_pick_36 rfl (lv_at hl 1 rfl) ?_
        refine lv_iconst (v := 1) hx hb dX1_pick_37 (by decide) ?_
        refine lv_isub hx hb dX1_pick_38 ?_
        refine lv_topi (fun v_16 ev_16 => ?_)
        have q_17 : v_16.toInt = n.toInt - (1 : Int32).toInt := ow_sub ev_16 (by omega) (by omega)
        refine lv_istore (lv' := [(4, .int v_16), (0, .ref deal), (1, .int n), (2, .int n2), (3, .int n3)]) hx hb dX1_pick_39 hl (by decide) rfl (fun ls hl => ?_)
        refine lv_aload_n hx hb dX1_pick_41 rfl (lv_at hl 1 rfl) ?_
        refine lv_iload hx hb dX1_pick_42 (lv_at hl 0 rfl) ?_
        refine lv_iload_n hx hb dX1_pick_44 rfl (lv_at hl 3 rfl) ?_
        refine lv_iload_n hx hb dX1_pick_45 rfl (lv_at hl 4 rfl) ?_
        have hFc := fr_free hD hS hA
        refine va_callv (va_runS (As := [.ref deal, .int v_16, .int n2, .int n3]) (rest := []) ⟨hx, hb, hml, hown, ht⟩ (c_pick10 l G cy _ L K R T I E J B deal v_16 n2 n3 hRT hI hE h_deal.1 h_deal.2 (by omega)) (va_cwS 4 ht (gs k_492 k_493 k_494 k_491) rfl rfl rfl (by decide +kernel) ⟨Nat.le_of_ble_eq_true rfl, Nat.le_of_ble_eq_true rfl⟩) ⟨En.blind, fun U hU hW => ⟨rfl, En.of hU hW hP hK hD hN⟩⟩ rfl rfl hl.1 rfl (lv_room (Nat.le_of_ble_eq_true rfl)) dX1_pick_46 ⟨Nat.le_of_ble_eq_true rfl, Nat.le_of_ble_eq_true rfl⟩) hS (fun q _ h => hFc q h) hFc (fun u_18 t9 H locs ht9 hvm hw hB hz1 hk1 hS => ?_)
        obtain ⟨I18, J18, E18, B18⟩ := u_18
        obtain ⟨hP1, hD1⟩ := hB
        rw [ht9] at hP1
        clear hI hE
        obtain ⟨hI, hE, xu_18I, wu_18⟩ := hw
        dsimp only at hI hE xu_18I wu_18
        have hP : va_P G vwCl (WC cy L K R I18 J18 E18 B18) H := hP1
        have hD : va_D A (WC cy L K R I18 J18 E18 B18) := hD1.weaken (fun _ _ _ h => hFc _ h)
        clear hFc hk1 hz1 hP1 hD1
        replace hC_0 := FI.tr hC_0 xu_18I (by decide)
        refine lv_aload_n hx hb dX1_pick_49 rfl (lv_at hl 1 rfl) ?_
        refine cg_9_0_1 hx hb ht hown hK hN hP h_deal.1 h_deal.2 dX1_pick_50 ?_
        refine lv_iload hx hb dX1_pick_53 (lv_at hl 0 rfl) ?_
        have q_19 : vp_in v_16 14 := vp_in_iff.mpr ⟨by omega, by omega⟩
        refine cl_39 hx hb hK hP hm_13.1 hm_13.2 q_19 dX1_pick_55 ?_
        refine lv_topi (fun v_20 ev_20 => ?_)
        refine lv_iload_n hx hb dX1_pick_56 rfl (lv_at hl 3 rfl) ?_
        refine lv_iand hx hb dX1_pick_57 ?_
        refine lv_topi (fun v_21 ev_21 => ?_)
        refine lv_if_ne (tgt := 76) hx hb dX1_pick_58 (by decide) (fun c_22 => ?_) (fun c_22 => ?_)
        · have q_23 : ¬ v_21.toInt = (0 : Int32).toInt := by have := (not_congr (ow_eq _ _)).mp c_22; omega
          refine W.widen (k := 0) (n := 0) (Nat.le_of_ble_eq_true rfl) (Nat.le_of_ble_eq_true rfl) ?_
          exact W.vret hx hb hr (fun t ht9 hW => ⟨⟨(I18, J18, E18, B18), rfl, ⟨hI, hE, hC_0, trivial⟩, ⟨by rw [ht9]; exact hP, hD⟩⟩, hS.F ht9⟩) hS.2.2 dX1_pick_76
        · have q_24 : v_21.toInt = (0 : Int32).toInt := (ow_eq _ _).mp c_22
          refine lv_aload_n hx hb dX1_pick_61 rfl (lv_at hl 1 rfl) ?_
          refine lv_iload hx hb dX1_pick_62 (lv_at hl 0 rfl) ?_
          refine lv_iload_n hx hb dX1_pick_64 rfl (lv_at hl 3 rfl) ?_
          refine lv_iconst (v := 1) hx hb dX1_pick_65 (by decide) ?_
          refine lv_iload hx hb dX1_pick_66 (lv_at hl 0 rfl) ?_
          refine lv_ishl hx hb dX1_pick_68 ?_
          refine lv_topi (fun v_25 ev_25 => ?_)
          refine lv_ior hx hb dX1_pick_69 ?_
          refine lv_topi (fun v_26 ev_26 => ?_)
          refine lv_iload_n hx hb dX1_pick_70 rfl (lv_at hl 4 rfl) ?_
          refine lv_iconst (v := 1) hx hb dX1_pick_71 (by decide) ?_
          refine lv_iadd hx hb dX1_pick_72 ?_
          refine lv_topi (fun v_27 ev_27 => ?_)
          have hFc := fr_free hD hS hA
          refine va_callv (va_runS (As := [.ref deal, .int v_16, .int v_26, .int v_27]) (rest := []) ⟨hx, hb, hml, hown, ht⟩ (c_pick10 l G cy _ L K R T I18 E18 J18 B18 deal v_16 v_26 v_27 hRT hI hE h_deal.1 h_deal.2 (by omega)) (va_cwS 4 ht (gs k_492 k_493 k_494 k_491) rfl rfl rfl (by decide +kernel) ⟨Nat.le_of_ble_eq_true rfl, Nat.le_of_ble_eq_true rfl⟩) ⟨En.blind, fun U hU hW => ⟨rfl, En.of hU hW hP hK hD hN⟩⟩ rfl rfl hl.1 rfl (lv_room (Nat.le_of_ble_eq_true rfl)) dX1_pick_73 ⟨Nat.le_of_ble_eq_true rfl, Nat.le_of_ble_eq_true rfl⟩) hS (fun q _ h => hFc q h) hFc (fun u_28 t9 H locs ht9 hvm hw hB hz1 hk1 hS => ?_)
          obtain ⟨I28, J28, E28, B28⟩ := u_28
          obtain ⟨hP1, hD1⟩ := hB
          rw [ht9] at hP1
          clear hI hE
          obtain ⟨hI, hE, xu_28I, wu_28⟩ := hw
          dsimp only at hI hE xu_28I wu_28
          have hP : va_P G vwCl (WC cy L K R I28 J28 E28 B28) H := hP1
          have hD : va_D A (WC cy L K R I28 J28 E28 B28) := hD1.weaken (fun _ _ _ h => hFc _ h)
          clear hFc hk1 hz1 hP1 hD1
          replace hC_0 := FI.tr hC_0 xu_28I (by decide)
          refine W.widen (k := 0) (n := 0) (Nat.le_of_ble_eq_true rfl) (Nat.le_of_ble_eq_true rfl) ?_
          exact W.vret hx hb hr (fun t ht9 hW => ⟨⟨(I28, J28, E28, B28), rfl, ⟨hI, hE, hC_0, trivial⟩, ⟨by rw [ht9]; exact hP, hD⟩⟩, hS.F ht9⟩) hS.2.2 dX1_pick_76
      · have q_29 : (14 : Int32).toInt < n.toInt := by have := (not_congr (ow_le _ _)).mp c_14; omega
        exfalso
        omega
  · have q_30 : v_1.toInt ≤ (I deal 2).toInt := by have := (not_congr (ow_lt _ _)).mp c_2; omega
    refine W.widen (k := 0) (n := 0) (Nat.le_of_ble_eq_true rfl) (Nat.le_of_ble_eq_true rfl) ?_
    exact W.vret hx hb hr (fun t ht9 hW => ⟨⟨(I, J, E, B), rfl, ⟨hI, hE, hC_0, trivial⟩, ⟨by rw [ht9]; exact hP, hD⟩⟩, hS.F ht9⟩) hS.2.2 dX1_pick_10
set_option maxHeartbeats 4000000 in
set_option maxRecDepth 100000 in
theorem c_pick12 (l : Launch) (G : va_G) (cy : Nat → ClassId) (sz : Nat) (L : List Nat) (K : Nat → Nat) (R : Nat → Nat → Nat) (T : Int) (I E : Nat → Nat → Int32) (J B : Nat → Nat → Int64) (deal : Nat) (n : Int32) (n2 : Int32) (n3 : Int32) (hRT : RT L K R) (hI : IV T L K I) (hE : EV L K E) (h_deal1 : deal ∈ L) (h_deal2 : K deal = 9) (h_n : -2147483648 ≤ n.toInt ∧ n.toInt ≤ 12) : Met l yX1_pick (.code yX1_pick cX1_pick 5 none :: TBg) ({ frames := 13, cells := 0, slots := 0, locals := 832 }) (va_Pc [.ref deal, .int n, .int n2, .int n3] (En G cy (WC cy L K R I J E B) sz)) (va_Qv (fun (u : (Nat → Nat → Int32) × (Nat → Nat → Int64) × (Nat → Nat → Int32) × (Nat → Nat → Int64)) => IV T L K u.1 ∧ EV L K u.2.2.1 ∧ FI [(9, 1), (9, 2)] K I u.1 ∧ (True)) (fun u t => Ex G (va_A (WC cy L K R I J E B) sz) (WC cy L K R u.1 u.2.1 u.2.2.1 u.2.2.2) t) (va_A (WC cy L K R I J E B) sz)) 0 0 (va_A (WC cy L K R I J E B) sz) := by
  have h_deal : deal ∈ L ∧ K deal = 9 := ⟨h_deal1, h_deal2⟩
  refine Met.ofW (cc := cX1_pick) (maxL := 5) (ret := none) (by decide) rfl ?_
  intro p e s m args below meth c s₁ B9 hml hv9
  obtain ⟨rfl, hsz, hP, hK, hD0, hN⟩ := hv9
  have hx := B9.exec
  have hb := B9.bytes
  have hr := B9.returns
  have hts := atoms_spec (ws := .code yX1_pick cX1_pick 5 none :: TBg) B9.pre
  have ht : ∀ w ∈ TBg, w.before _ s = true := fun w h => hts w (List.mem_cons_of_mem _ h)
  have hown : s.vm.findClass RX1 = some m.cls := findClass_of_methodNamed B9.named
  have hlocks := B9.notSynchronized
  subst hsz
  have hD := hD0.self (sz := s.heap.size)
  generalize hAe : va_A (WC cy L K R I J E B) s.heap.size = A at hD ⊢
  have hA : ∀ q : Nat, s.heap.size ≤ q → A q := fun q h => by rw [← hAe]; exact Or.inr h
  have hS : va_S A s.heap s.heap [] := va_S.rf
  have hl := lv_entry ([.ref deal, .int n, .int n2, .int n3]) (n := 5) (Nat.le_of_ble_eq_true rfl)
  rw [lg_entry_eq]
  generalize (lg_sl ([.ref deal, .int n, .int n2, .int n3]) ++ List.replicate (5 - (lg_sl ([.ref deal, .int n, .int n2, .int n3])).length) Slot.unset).toArray = ls at hl ⊢
  have hl : lv_has ls 5 [(0, .ref deal), (1, .int n), (2, .int n2), (3, .int n3)] := hl
  have z0 : (0 : Int32).toInt = 0 := by decide
  have z1 : (1 : Int32).toInt = 1 := by decide
  have z2 : (14 : Int32).toInt = 14 := by decide
  have hC_0 : FI [(9, 1), (9, 2)] K I I := FI.rf
  refine lv_iload_n hx hb dX1_pick_0 rfl (lv_at hl 3 rfl) ?_
  refine lv_iload_n hx hb dX1_pick_1 rfl (lv_at hl 1 rfl) ?_
  refine lv_iadd hx hb dX1_pick_2 ?_
  refine lv_topi (fun v_1 ev_1 => ?_)
  refine lv_aload_n hx hb dX1_pick_3 rfl (lv_at hl 0 rfl) ?_
  refine cg_9_2_1 hx hb ht hown hK hN hP h_deal.1 h_deal.2 dX1_pick_4 ?_
  refine lv_icmp_gt (tgt := 11) hx hb dX1_pick_7 (by decide) (fun c_2 => ?_) (fun c_2 => ?_)
  · have q_3 : (I deal 2).toInt < v_1.toInt := (ow_lt _ _).mp c_2
    refine lv_iload_n hx hb dX1_pick_11 rfl (lv_at hl 1 rfl) ?_
    refine lv_iconst (v := 1) hx hb dX1_pick_12 (by decide) ?_
    refine lv_icmp_lt (tgt := 25) hx hb dX1_pick_13 (by decide) (fun c_4 => ?_) (fun c_4 => ?_)
    · have q_5 : n.toInt < (1 : Int32).toInt := (ow_lt _ _).mp c_4
      refine lv_aload_n hx hb dX1_pick_25 rfl (lv_at hl 0 rfl) ?_
      refine lv_iload_n hx hb dX1_pick_26 rfl (lv_at hl 2 rfl) ?_
      refine cp_9_1_1 hx hb ht hown hK hN hP hD hS h_deal.1 h_deal.2 dX1_pick_27 (fun H locs hP hD hS => ?_)
      replace hI := IV.up hI h_deal.2 1 (ow_any n2)
      have f_6 : FI [(9, 1)] K I (va_up I deal (va_up (I deal) 1 n2)) := FI.up h_deal.2 1 n2
      have e_7 : (va_up I deal (va_up (I deal) 1 n2)) deal 1 = n2 := FI.at I deal 1 n2
      replace hC_0 := FI.tr hC_0 f_6 (by decide)
      generalize (va_up I deal (va_up (I deal) 1 n2)) = I_8 at hP hD hI f_6 e_7 hC_0
      refine lv_aload_n hx hb dX1_pick_30 rfl (lv_at hl 0 rfl) ?_
      refine lv_iload_n hx hb dX1_pick_31 rfl (lv_at hl 3 rfl) ?_
      refine cp_9_2_1 hx hb ht hown hK hN hP hD hS h_deal.1 h_deal.2 dX1_pick_32 (fun H locs hP hD hS => ?_)
      replace hI := IV.up hI h_deal.2 2 (ow_any n3)
      have f_9 : FI [(9, 2)] K I_8 (va_up I_8 deal (va_up (I_8 deal) 2 n3)) := FI.up h_deal.2 2 n3
      have e_10 : (va_up I_8 deal (va_up (I_8 deal) 2 n3)) deal 2 = n3 := FI.at I_8 deal 2 n3
      replace hC_0 := FI.tr hC_0 f_9 (by decide)
      generalize (va_up I_8 deal (va_up (I_8 deal) 2 n3)) = I_11 at hP hD hI f_9 e_10 hC_0
      refine W.widen (k := 0) (n := 0) (Nat.le_of_ble_eq_true rfl) (Nat.le_of_ble_eq_true rfl) ?_
      exact W.vret hx hb hr (fun t ht9 hW => ⟨⟨(I_11, J, E, B), rfl, ⟨hI, hE, hC_0, trivial⟩, ⟨by rw [ht9]; exact hP, hD⟩⟩, hS.F ht9⟩) hS.2.2 dX1_pick_35
    · have q_12 : (1 : Int32).toInt ≤ n.toInt := by have := (not_congr (ow_lt _ _)).mp c_4; omega
      refine lv_iload_n hx hb dX1_pick_16 rfl (lv_at hl 1 rfl) ?_
      refine lv_aload_n hx hb dX1_pick_17 rfl (lv_at hl 0 rfl) ?_
      refine cg_9_0_1 hx hb ht hown hK hN hP h_deal.1 h_deal.2 dX1_pick_18 ?_
      have hm_13 : (R deal 0) ∈ L ∧ K (R deal 0) = 39 := RT.o hRT h_deal.1 h_deal.2 0 (by decide)
      refine cn_39 hx hb hK hP hm_13.1 hm_13.2 dX1_pick_21 ?_
      refine lv_icmp_le (tgt := 36) hx hb dX1_pick_22 (by decide) (fun c_14 => ?_) (fun c_14 => ?_)
      · have q_15 : n.toInt ≤ (14 : Int32).toInt := (ow_le _ _).mp c_14
        refine lv_iload_n hx hb dX1_pick_36 rfl (lv_at hl 1 rfl) ?_
        refine lv_iconst (v := 1) hx hb dX1_pick_37 (by decide) ?_
        refine lv_isub hx hb dX1_pick_38 ?_
        refine lv_topi (fun v_16 ev_16 => ?_)
        have q_17 : v_16.toInt = n.toInt - (1 : Int32).toInt := ow_sub ev_16 (by omega) (by omega)
        refine lv_istore (lv' := [(4, .int v_16), (0, .ref deal), (1, .int n), (2, .int n2), (3, .int n3)]) hx hb dX1_pick_39 hl (by decide) rfl (fun ls hl => ?_)
        refine lv_aload_n hx hb dX1_pick_41 rfl (lv_at hl 1 rfl) ?_
        refine lv_iload hx hb dX1_pick_42 (lv_at hl 0 rfl) ?_
        refine lv_iload_n hx hb dX1_pick_44 rfl (lv_at hl 3 rfl) ?_
        refine lv_iload_n hx hb dX1_pick_45 rfl (lv_at hl 4 rfl) ?_
        have hFc := fr_free hD hS hA
        refine va_callv (va_runS (As := [.ref deal, .int v_16, .int n2, .int n3]) (rest := []) ⟨hx, hb, hml, hown, ht⟩ (c_pick11 l G cy _ L K R T I E J B deal v_16 n2 n3 hRT hI hE h_deal.1 h_deal.2 (by omega)) (va_cwS 4 ht (gs k_492 k_493 k_494 k_491) rfl rfl rfl (by decide +kernel) ⟨Nat.le_of_ble_eq_true rfl, Nat.le_of_ble_eq_true rfl⟩) ⟨En.blind, fun U hU hW => ⟨rfl, En.of hU hW hP hK hD hN⟩⟩ rfl rfl hl.1 rfl (lv_room (Nat.le_of_ble_eq_true rfl)) dX1_pick_46 ⟨Nat.le_of_ble_eq_true rfl, Nat.le_of_ble_eq_true rfl⟩) hS (fun q _ h => hFc q h) hFc (fun u_18 t9 H locs ht9 hvm hw hB hz1 hk1 hS => ?_)
        obtain ⟨I18, J18, E18, B18⟩ := u_18
        obtain ⟨hP1, hD1⟩ := hB
        rw [ht9] at hP1
        clear hI hE
        obtain ⟨hI, hE, xu_18I, wu_18⟩ := hw
        dsimp only at hI hE xu_18I wu_18
        have hP : va_P G vwCl (WC cy L K R I18 J18 E18 B18) H := hP1
        have hD : va_D A (WC cy L K R I18 J18 E18 B18) := hD1.weaken (fun _ _ _ h => hFc _ h)
        clear hFc hk1 hz1 hP1 hD1
        replace hC_0 := FI.tr hC_0 xu_18I (by decide)
        refine lv_aload_n hx hb dX1_pick_49 rfl (lv_at hl 1 rfl) ?_
        refine cg_9_0_1 hx hb ht hown hK hN hP h_deal.1 h_deal.2 dX1_pick_50 ?_
        refine lv_iload hx hb dX1_pick_53 (lv_at hl 0 rfl) ?_
        have q_19 : vp_in v_16 14 := vp_in_iff.mpr ⟨by omega, by omega⟩
        refine cl_39 hx hb hK hP hm_13.1 hm_13.2 q_19 dX1_pick_55 ?_
        refine lv_topi (fun v_20 ev_20 => ?_)
        refine lv_iload_n hx hb dX1_pick_56 rfl (lv_at hl 3 rfl) ?_
        refine lv_iand hx hb dX1_pick_57 ?_
        refine lv_topi (fun v_21 ev_21 => ?_)
        refine lv_if_ne (tgt := 76) hx hb dX1_pick_58 (by decide) (fun c_22 => ?_) (fun c_22 => ?_)
        · have q_23 : ¬ v_21.toInt = (0 : Int32).toInt := by have := (not_congr (ow_eq _ _)).mp c_22; omega
          refine W.widen (k := 0) (n := 0) (Nat.le_of_ble_eq_true rfl) (Nat.le_of_ble_eq_true rfl) ?_
          exact W.vret hx hb hr (fun t ht9 hW => ⟨⟨(I18, J18, E18, B18), rfl, ⟨hI, hE, hC_0, trivial⟩, ⟨by rw [ht9]; exact hP, hD⟩⟩, hS.F ht9⟩) hS.2.2 dX1_pick_76
        · have q_24 : v_21.toInt = (0 : Int32).toInt := (ow_eq _ _).mp c_22
          refine lv_aload_n hx hb dX1_pick_61 rfl (lv_at hl 1 rfl) ?_
          refine lv_iload hx hb dX1_pick_62 (lv_at hl 0 rfl) ?_
          refine lv_iload_n hx hb dX1_pick_64 rfl (lv_at hl 3 rfl) ?_
          refine lv_iconst (v := 1) hx hb dX1_pick_65 (by decide) ?_
          refine lv_iload hx hb dX1_pick_66 (lv_at hl 0 rfl) ?_
          refine lv_ishl hx hb dX1_pick_68 ?_
          refine lv_topi (fun v_25 ev_25 => ?_)
          refine lv_ior hx hb dX1_pick_69 ?_
          refine lv_topi (fun v_26 ev_26 => ?_)
          refine lv_iload_n hx hb dX1_pick_70 rfl (lv_at hl 4 rfl) ?_
          refine lv_iconst (v := 1) hx hb dX1_pick_71 (by decide) ?_
          refine lv_iadd hx hb dX1_pick_72 ?_
          refine lv_topi (fun v_27 ev_27 => ?_)
          have hFc := fr_free hD hS hA
          refine va_callv (va_runS (As := [.ref deal, .int v_16, .int v_26, .int v_27]) (rest := []) ⟨hx, hb, hml, hown, ht⟩ (c_pick11 l G cy _ L K R T I18 E18 J18 B18 deal v_16 v_26 v_27 hRT hI hE h_deal.1 h_deal.2 (by omega)) (va_cwS 4 ht (gs k_492 k_493 k_494 k_491) rfl rfl rfl (by decide +kernel) ⟨Nat.le_of_ble_eq_true rfl, Nat.le_of_ble_eq_true rfl⟩) ⟨En.blind, fun U hU hW => ⟨rfl, En.of hU hW hP hK hD hN⟩⟩ rfl rfl hl.1 rfl (lv_room (Nat.le_of_ble_eq_true rfl)) dX1_pick_73 ⟨Nat.le_of_ble_eq_true rfl, Nat.le_of_ble_eq_true rfl⟩) hS (fun q _ h => hFc q h) hFc (fun u_28 t9 H locs ht9 hvm hw hB hz1 hk1 hS => ?_)
          obtain ⟨I28, J28, E28, B28⟩ := u_28
          obtain ⟨hP1, hD1⟩ := hB
          rw [ht9] at hP1
          clear hI hE
          obtain ⟨hI, hE, xu_28I, wu_28⟩ := hw
          dsimp only at hI hE xu_28I wu_28
          have hP : va_P G vwCl (WC cy L K R I28 J28 E28 B28) H := hP1
          have hD : va_D A (WC cy L K R I28 J28 E28 B28) := hD1.weaken (fun _ _ _ h => hFc _ h)
          clear hFc hk1 hz1 hP1 hD1
          replace hC_0 := FI.tr hC_0 xu_28I (by decide)
          refine W.widen (k := 0) (n := 0) (Nat.le_of_ble_eq_true rfl) (Nat.le_of_ble_eq_true rfl) ?_
          exact W.vret hx hb hr (fun t ht9 hW => ⟨⟨(I28, J28, E28, B28), rfl, ⟨hI, hE, hC_0, trivial⟩, ⟨by rw [ht9]; exact hP, hD⟩⟩, hS.F ht9⟩) hS.2.2 dX1_pick_76
      · have q_29 : (14 : Int32).toInt < n.toInt := by have := (not_congr (ow_le _ _)).mp c_14; omega
        exfalso
        omega
  · have q_30 : v_1.toInt ≤ (I deal 2).toInt := by have := (not_congr (ow_lt _ _)).mp c_2; omega
    refine W.widen (k := 0) (n := 0) (Nat.le_of_ble_eq_true rfl) (Nat.le_of_ble_eq_true rfl) ?_
    exact W.vret hx hb hr (fun t ht9 hW => ⟨⟨(I, J, E, B), rfl, ⟨hI, hE, hC_0, trivial⟩, ⟨by rw [ht9]; exact hP, hD⟩⟩, hS.F ht9⟩) hS.2.2 dX1_pick_10
set_option maxHeartbeats 4000000 in
set_option maxRecDepth 100000 in
theorem c_pick13 (l : Launch) (G : va_G) (cy : Nat → ClassId) (sz : Nat) (L : List Nat) (K : Nat → Nat) (R : Nat → Nat → Nat) (T : Int) (I E : Nat → Nat → Int32) (J B : Nat → Nat → Int64) (deal : Nat) (n : Int32) (n2 : Int32) (n3 : Int32) (hRT : RT L K R) (hI : IV T L K I) (hE : EV L K E) (h_deal1 : deal ∈ L) (h_deal2 : K deal = 9) (h_n : -2147483648 ≤ n.toInt ∧ n.toInt ≤ 13) : Met l yX1_pick (.code yX1_pick cX1_pick 5 none :: TBg) ({ frames := 14, cells := 0, slots := 0, locals := 896 }) (va_Pc [.ref deal, .int n, .int n2, .int n3] (En G cy (WC cy L K R I J E B) sz)) (va_Qv (fun (u : (Nat → Nat → Int32) × (Nat → Nat → Int64) × (Nat → Nat → Int32) × (Nat → Nat → Int64)) => IV T L K u.1 ∧ EV L K u.2.2.1 ∧ FI [(9, 1), (9, 2)] K I u.1 ∧ (True)) (fun u t => Ex G (va_A (WC cy L K R I J E B) sz) (WC cy L K R u.1 u.2.1 u.2.2.1 u.2.2.2) t) (va_A (WC cy L K R I J E B) sz)) 0 0 (va_A (WC cy L K R I J E B) sz) := by
  have h_deal : deal ∈ L ∧ K deal = 9 := ⟨h_deal1, h_deal2⟩
  refine Met.ofW (cc := cX1_pick) (maxL := 5) (ret := none) (by decide) rfl ?_
  intro p e s m args below meth c s₁ B9 hml hv9
  obtain ⟨rfl, hsz, hP, hK, hD0, hN⟩ := hv9
  have hx := B9.exec
  have hb := B9.bytes
  have hr := B9.returns
  have hts := atoms_spec (ws := .code yX1_pick cX1_pick 5 none :: TBg) B9.pre
  have ht : ∀ w ∈ TBg, w.before _ s = true := fun w h => hts w (List.mem_cons_of_mem _ h)
  have hown : s.vm.findClass RX1 = some m.cls := findClass_of_methodNamed B9.named
  have hlocks := B9.notSynchronized
  subst hsz
  have hD := hD0.self (sz := s.heap.size)
  generalize hAe : va_A (WC cy L K R I J E B) s.heap.size = A at hD ⊢
  have hA : ∀ q : Nat, s.heap.size ≤ q → A q := fun q h => by rw [← hAe]; exact Or.inr h
  have hS : va_S A s.heap s.heap [] := va_S.rf
  have hl := lv_entry ([.ref deal, .int n, .int n2, .int n3]) (n := 5) (Nat.le_of_ble_eq_true rfl)
  rw [lg_entry_eq]
  generalize (lg_sl ([.ref deal, .int n, .int n2, .int n3]) ++ List.replicate (5 - (lg_sl ([.ref deal, .int n, .int n2, .int n3])).length) Slot.unset).toArray = ls at hl ⊢
  have hl : lv_has ls 5 [(0, .ref deal), (1, .int n), (2, .int n2), (3, .int n3)] := hl
  have z0 : (0 : Int32).toInt = 0 := by decide
  have z1 : (1 : Int32).toInt = 1 := by decide
  have z2 : (14 : Int32).toInt = 14 := by decide
  have hC_0 : FI [(9, 1), (9, 2)] K I I := FI.rf
  refine lv_iload_n hx hb dX1_pick_0 rfl (lv_at hl 3 rfl) ?_
  refine lv_iload_n hx hb dX1_pick_1 rfl (lv_at hl 1 rfl) ?_
  refine lv_iadd hx hb dX1_pick_2 ?_
  refine lv_topi (fun v_1 ev_1 => ?_)
  refine lv_aload_n hx hb dX1_pick_3 rfl (lv_at hl 0 rfl) ?_
  refine cg_9_2_1 hx hb ht hown hK hN hP h_deal.1 h_deal.2 dX1_pick_4 ?_
  refine lv_icmp_gt (tgt := 11) hx hb dX1_pick_7 (by decide) (fun c_2 => ?_) (fun c_2 => ?_)
  · have q_3 : (I deal 2).toInt < v_1.toInt := (ow_lt _ _).mp c_2
    refine lv_iload_n hx hb dX1_pick_11 rfl (lv_at hl 1 rfl) ?_
    refine lv_iconst (v := 1) hx hb dX1_pick_12 (by decide) ?_
    refine lv_icmp_lt (tgt := 25) hx hb dX1_pick_13 (by decide) (fun c_4 => ?_) (fun c_4 => ?_)
    · have q_5 : n.toInt < (1 : Int32).toInt := (ow_lt _ _).mp c_4
      refine lv_aload_n hx hb dX1_pick_25 rfl (lv_at hl 0 rfl) ?_
      refine lv_iload_n hx hb dX1_pick_26 rfl (lv_at hl 2 rfl) ?_
      refine cp_9_1_1 hx hb ht hown hK hN hP hD hS h_deal.1 h_deal.2 dX1_pick_27 (fun H locs hP hD hS => ?_)
      replace hI := IV.up hI h_deal.2 1 (ow_any n2)
      have f_6 : FI [(9, 1)] K I (va_up I deal (va_up (I deal) 1 n2)) := FI.up h_deal.2 1 n2
      have e_7 : (va_up I deal (va_up (I deal) 1 n2)) deal 1 = n2 := FI.at I deal 1 n2
      replace hC_0 := FI.tr hC_0 f_6 (by decide)
      generalize (va_up I deal (va_up (I deal) 1 n2)) = I_8 at hP hD hI f_6 e_7 hC_0
      refine lv_aload_n hx hb dX1_pick_30 rfl (lv_at hl 0 rfl) ?_
      refine lv_iload_n hx hb dX1_pick_31 rfl (lv_at hl 3 rfl) ?_
      refine cp_9_2_1 hx hb ht hown hK hN hP hD hS h_deal.1 h_deal.2 dX1_pick_32 (fun H locs hP hD hS => ?_)
      replace hI := IV.up hI h_deal.2 2 (ow_any n3)
      have f_9 : FI [(9, 2)] K I_8 (va_up I_8 deal (va_up (I_8 deal) 2 n3)) := FI.up h_deal.2 2 n3
      have e_10 : (va_up I_8 deal (va_up (I_8 deal) 2 n3)) deal 2 = n3 := FI.at I_8 deal 2 n3
      replace hC_0 := FI.tr hC_0 f_9 (by decide)
      generalize (va_up I_8 deal (va_up (I_8 deal) 2 n3)) = I_11 at hP hD hI f_9 e_10 hC_0
      refine W.widen (k := 0) (n := 0) (Nat.le_of_ble_eq_true rfl) (Nat.le_of_ble_eq_true rfl) ?_
      exact W.vret hx hb hr (fun t ht9 hW => ⟨⟨(I_11, J, E, B), rfl, ⟨hI, hE, hC_0, trivial⟩, ⟨by rw [ht9]; exact hP, hD⟩⟩, hS.F ht9⟩) hS.2.2 dX1_pick_35
    · have q_12 : (1 : Int32).toInt ≤ n.toInt := by have := (not_congr (ow_lt _ _)).mp c_4; omega
      refine lv_iload_n hx hb dX1_pick_16 rfl (lv_at hl 1 rfl) ?_
      refine lv_aload_n hx hb dX1_pick_17 rfl (lv_at hl 0 rfl) ?_
      refine cg_9_0_1 hx hb ht hown hK hN hP h_deal.1 h_deal.2 dX1_pick_18 ?_
      have hm_13 : (R deal 0) ∈ L ∧ K (R deal 0) = 39 := RT.o hRT h_deal.1 h_deal.2 0 (by decide)
      refine cn_39 hx hb hK hP hm_13.1 hm_13.2 dX1_pick_21 ?_
      refine lv_icmp_le (tgt := 36) hx hb dX1_pick_22 (by decide) (fun c_14 => ?_) (fun c_14 => ?_)
      · have q_15 : n.toInt ≤ (14 : Int32).toInt := (ow_le _ _).mp c_14
        refine lv_iload_n hx hb dX1_pick_36 rfl (lv_at hl 1 rfl) ?_
        refine lv_iconst (v := 1) hx hb dX1_pick_37 (by decide) ?_
        refine lv_isub hx hb dX1_pick_38 ?_
        refine lv_topi (fun v_16 ev_16 => ?_)
        have q_17 : v_16.toInt = n.toInt - (1 : Int32).toInt := ow_sub ev_16 (by omega) (by omega)
        refine lv_istore (lv' := [(4, .int v_16), (0, .ref deal), (1, .int n), (2, .int n2), (3, .int n3)]) hx hb dX1_pick_39 hl (by decide) rfl (fun ls hl => ?_)
        refine lv_aload_n hx hb dX1_pick_41 rfl (lv_at hl 1 rfl) ?_
        refine lv_iload hx hb dX1_pick_42 (lv_at hl 0 rfl) ?_
        refine lv_iload_n hx hb dX1_pick_44 rfl (lv_at hl 3 rfl) ?_
        refine lv_iload_n hx hb dX1_pick_45 rfl (lv_at hl 4 rfl) ?_
        have hFc := fr_free hD hS hA
        refine va_callv (va_runS (As := [.ref deal, .int v_16, .int n2, .int n3]) (rest := []) ⟨hx, hb, hml, hown, ht⟩ (c_pick12 l G cy _ L K R T I E J B deal v_16 n2 n3 hRT hI hE h_deal.1 h_deal.2 (by omega)) (va_cwS 4 ht (gs k_492 k_493 k_494 k_491) rfl rfl rfl (by decide +kernel) ⟨Nat.le_of_ble_eq_true rfl, Nat.le_of_ble_eq_true rfl⟩) ⟨En.blind, fun U hU hW => ⟨rfl, En.of hU hW hP hK hD hN⟩⟩ rfl rfl hl.1 rfl (lv_room (Nat.le_of_ble_eq_true rfl)) dX1_pick_46 ⟨Nat.le_of_ble_eq_true rfl, Nat.le_of_ble_eq_true rfl⟩) hS (fun q _ h => hFc q h) hFc (fun u_18 t9 H locs ht9 hvm hw hB hz1 hk1 hS => ?_)
        obtain ⟨I18, J18, E18, B18⟩ := u_18
        obtain ⟨hP1, hD1⟩ := hB
        rw [ht9] at hP1
        clear hI hE
        obtain ⟨hI, hE, xu_18I, wu_18⟩ := hw
        dsimp only at hI hE xu_18I wu_18
        have hP : va_P G vwCl (WC cy L K R I18 J18 E18 B18) H := hP1
        have hD : va_D A (WC cy L K R I18 J18 E18 B18) := hD1.weaken (fun _ _ _ h => hFc _ h)
        clear hFc hk1 hz1 hP1 hD1
        replace hC_0 := FI.tr hC_0 xu_18I (by decide)
        refine lv_aload_n hx hb dX1_pick_49 rfl (lv_at hl 1 rfl) ?_
        refine cg_9_0_1 hx hb ht hown hK hN hP h_deal.1 h_deal.2 dX1_pick_50 ?_
        refine lv_iload hx hb dX1_pick_53 (lv_at hl 0 rfl) ?_
        have q_19 : vp_in v_16 14 := vp_in_iff.mpr ⟨by omega, by omega⟩
        refine cl_39 hx hb hK hP hm_13.1 hm_13.2 q_19 dX1_pick_55 ?_
        refine lv_topi (fun v_20 ev_20 => ?_)
        refine lv_iload_n hx hb dX1_pick_56 rfl (lv_at hl 3 rfl) ?_
        refine lv_iand hx hb dX1_pick_57 ?_
        refine lv_topi (fun v_21 ev_21 => ?_)
        refine lv_if_ne (tgt := 76) hx hb dX1_pick_58 (by decide) (fun c_22 => ?_) (fun c_22 => ?_)
        · have q_23 : ¬ v_21.toInt = (0 : Int32).toInt := by have := (not_congr (ow_eq _ _)).mp c_22; omega
          refine W.widen (k := 0) (n := 0) (Nat.le_of_ble_eq_true rfl) (Nat.le_of_ble_eq_true rfl) ?_
          exact W.vret hx hb hr (fun t ht9 hW => ⟨⟨(I18, J18, E18, B18), rfl, ⟨hI, hE, hC_0, trivial⟩, ⟨by rw [ht9]; exact hP, hD⟩⟩, hS.F ht9⟩) hS.2.2 dX1_pick_76
        · have q_24 : v_21.toInt = (0 : Int32).toInt := (ow_eq _ _).mp c_22
          refine lv_aload_n hx hb dX1_pick_61 rfl (lv_at hl 1 rfl) ?_
          refine lv_iload hx hb dX1_pick_62 (lv_at hl 0 rfl) ?_
          refine lv_iload_n hx hb dX1_pick_64 rfl (lv_at hl 3 rfl) ?_
          refine lv_iconst (v := 1) hx hb dX1_pick_65 (by decide) ?_
          refine lv_iload hx hb dX1_pick_66 (lv_at hl 0 rfl) ?_
          refine lv_ishl hx hb dX1_pick_68 ?_
          refine lv_topi (fun v_25 ev_25 => ?_)
          refine lv_ior hx hb dX1_pick_69 ?_
          refine lv_topi (fun v_26 ev_26 => ?_)
          refine lv_iload_n hx hb dX1_pick_70 rfl (lv_at hl 4 rfl) ?_
          refine lv_iconst (v := 1) hx hb dX1_pick_71 (by decide) ?_
          refine lv_iadd hx hb dX1_pick_72 ?_
          refine lv_topi (fun v_27 ev_27 => ?_)
          have hFc := fr_free hD hS hA
          refine va_callv (va_runS (As := [.ref deal, .int v_16, .int v_26, .int v_27]) (rest := []) ⟨hx, hb, hml, hown, ht⟩ (c_pick12 l G cy _ L K R T I18 E18 J18 B18 deal v_16 v_26 v_27 hRT hI hE h_deal.1 h_deal.2 (by omega)) (va_cwS 4 ht (gs k_492 k_493 k_494 k_491) rfl rfl rfl (by decide +kernel) ⟨Nat.le_of_ble_eq_true rfl, Nat.le_of_ble_eq_true rfl⟩) ⟨En.blind, fun U hU hW => ⟨rfl, En.of hU hW hP hK hD hN⟩⟩ rfl rfl hl.1 rfl (lv_room (Nat.le_of_ble_eq_true rfl)) dX1_pick_73 ⟨Nat.le_of_ble_eq_true rfl, Nat.le_of_ble_eq_true rfl⟩) hS (fun q _ h => hFc q h) hFc (fun u_28 t9 H locs ht9 hvm hw hB hz1 hk1 hS => ?_)
          obtain ⟨I28, J28, E28, B28⟩ := u_28
          obtain ⟨hP1, hD1⟩ := hB
          rw [ht9] at hP1
          clear hI hE
          obtain ⟨hI, hE, xu_28I, wu_28⟩ := hw
          dsimp only at hI hE xu_28I wu_28
          have hP : va_P G vwCl (WC cy L K R I28 J28 E28 B28) H := hP1
          have hD : va_D A (WC cy L K R I28 J28 E28 B28) := hD1.weaken (fun _ _ _ h => hFc _ h)
          clear hFc hk1 hz1 hP1 hD1
          replace hC_0 := FI.tr hC_0 xu_28I (by decide)
          refine W.widen (k := 0) (n := 0) (Nat.le_of_ble_eq_true rfl) (Nat.le_of_ble_eq_true rfl) ?_
          exact W.vret hx hb hr (fun t ht9 hW => ⟨⟨(I28, J28, E28, B28), rfl, ⟨hI, hE, hC_0, trivial⟩, ⟨by rw [ht9]; exact hP, hD⟩⟩, hS.F ht9⟩) hS.2.2 dX1_pick_76
      · have q_29 : (14 : Int32).toInt < n.toInt := by have := (not_congr (ow_le _ _)).mp c_14; omega
        exfalso
        omega
  · have q_30 : v_1.toInt ≤ (I deal 2).toInt := by have := (not_congr (ow_lt _ _)).mp c_2; omega
    refine W.widen (k := 0) (n := 0) (Nat.le_of_ble_eq_true rfl) (Nat.le_of_ble_eq_true rfl) ?_
    exact W.vret hx hb hr (fun t ht9 hW => ⟨⟨(I, J, E, B), rfl, ⟨hI, hE, hC_0, trivial⟩, ⟨by rw [ht9]; exact hP, hD⟩⟩, hS.F ht9⟩) hS.2.2 dX1_pick_10
set_option maxHeartbeats 4000000 in
set_option maxRecDepth 100000 in
theorem c_pick14 (l : Launch) (G : va_G) (cy : Nat → ClassId) (sz : Nat) (L : List Nat) (K : Nat → Nat) (R : Nat → Nat → Nat) (T : Int) (I E : Nat → Nat → Int32) (J B : Nat → Nat → Int64) (deal : Nat) (n : Int32) (n2 : Int32) (n3 : Int32) (hRT : RT L K R) (hI : IV T L K I) (hE : EV L K E) (h_deal1 : deal ∈ L) (h_deal2 : K deal = 9) (h_n : -2147483648 ≤ n.toInt ∧ n.toInt ≤ 14) : Met l yX1_pick (.code yX1_pick cX1_pick 5 none :: TBg) ({ frames := 15, cells := 0, slots := 0, locals := 960 }) (va_Pc [.ref deal, .int n, .int n2, .int n3] (En G cy (WC cy L K R I J E B) sz)) (va_Qv (fun (u : (Nat → Nat → Int32) × (Nat → Nat → Int64) × (Nat → Nat → Int32) × (Nat → Nat → Int64)) => IV T L K u.1 ∧ EV L K u.2.2.1 ∧ FI [(9, 1), (9, 2)] K I u.1 ∧ (True)) (fun u t => Ex G (va_A (WC cy L K R I J E B) sz) (WC cy L K R u.1 u.2.1 u.2.2.1 u.2.2.2) t) (va_A (WC cy L K R I J E B) sz)) 0 0 (va_A (WC cy L K R I J E B) sz) := by
  have h_deal : deal ∈ L ∧ K deal = 9 := ⟨h_deal1, h_deal2⟩
  refine Met.ofW (cc := cX1_pick) (maxL := 5) (ret := none) (by decide) rfl ?_
  intro p e s m args below meth c s₁ B9 hml hv9
  obtain ⟨rfl, hsz, hP, hK, hD0, hN⟩ := hv9
  have hx := B9.exec
  have hb := B9.bytes
  have hr := B9.returns
  have hts := atoms_spec (ws := .code yX1_pick cX1_pick 5 none :: TBg) B9.pre
  have ht : ∀ w ∈ TBg, w.before _ s = true := fun w h => hts w (List.mem_cons_of_mem _ h)
  have hown : s.vm.findClass RX1 = some m.cls := findClass_of_methodNamed B9.named
  have hlocks := B9.notSynchronized
  subst hsz
  have hD := hD0.self (sz := s.heap.size)
  generalize hAe : va_A (WC cy L K R I J E B) s.heap.size = A at hD ⊢
  have hA : ∀ q : Nat, s.heap.size ≤ q → A q := fun q h => by rw [← hAe]; exact Or.inr h
  have hS : va_S A s.heap s.heap [] := va_S.rf
  have hl := lv_entry ([.ref deal, .int n, .int n2, .int n3]) (n := 5) (Nat.le_of_ble_eq_true rfl)
  rw [lg_entry_eq]
  generalize (lg_sl ([.ref deal, .int n, .int n2, .int n3]) ++ List.replicate (5 - (lg_sl ([.ref deal, .int n, .int n2, .int n3])).length) Slot.unset).toArray = ls at hl ⊢
  have hl : lv_has ls 5 [(0, .ref deal), (1, .int n), (2, .int n2), (3, .int n3)] := hl
  have z0 : (0 : Int32).toInt = 0 := by decide
  have z1 : (1 : Int32).toInt = 1 := by decide
  have z2 : (14 : Int32).toInt = 14 := by decide
  have hC_0 : FI [(9, 1), (9, 2)] K I I := FI.rf
  refine lv_iload_n hx hb dX1_pick_0 rfl (lv_at hl 3 rfl) ?_
  refine lv_iload_n hx hb dX1_pick_1 rfl (lv_at hl 1 rfl) ?_
  refine lv_iadd hx hb dX1_pick_2 ?_
  refine lv_topi (fun v_1 ev_1 => ?_)
  refine lv_aload_n hx hb dX1_pick_3 rfl (lv_at hl 0 rfl) ?_
  refine cg_9_2_1 hx hb ht hown hK hN hP h_deal.1 h_deal.2 dX1_pick_4 ?_
  refine lv_icmp_gt (tgt := 11) hx hb dX1_pick_7 (by decide) (fun c_2 => ?_) (fun c_2 => ?_)
  · have q_3 : (I deal 2).toInt < v_1.toInt := (ow_lt _ _).mp c_2
    refine lv_iload_n hx hb dX1_pick_11 rfl (lv_at hl 1 rfl) ?_
    refine lv_iconst (v := 1) hx hb dX1_pick_12 (by decide) ?_
    refine lv_icmp_lt (tgt := 25) hx hb dX1_pick_13 (by decide) (fun c_4 => ?_) (fun c_4 => ?_)
    · have q_5 : n.toInt < (1 : Int32).toInt := (ow_lt _ _).mp c_4
      refine lv_aload_n hx hb dX1_pick_25 rfl (lv_at hl 0 rfl) ?_
      refine lv_iload_n hx hb dX1_pick_26 rfl (lv_at hl 2 rfl) ?_
      refine cp_9_1_1 hx hb ht hown hK hN hP hD hS h_deal.1 h_deal.2 dX1_pick_27 (fun H locs hP hD hS => ?_)
      replace hI := IV.up hI h_deal.2 1 (ow_any n2)
      have f_6 : FI [(9, 1)] K I (va_up I deal (va_up (I deal) 1 n2)) := FI.up h_deal.2 1 n2
      have e_7 : (va_up I deal (va_up (I deal) 1 n2)) deal 1 = n2 := FI.at I deal 1 n2
      replace hC_0 := FI.tr hC_0 f_6 (by decide)
      generalize (va_up I deal (va_up (I deal) 1 n2)) = I_8 at hP hD hI f_6 e_7 hC_0
      refine lv_aload_n hx hb dX1_pick_30 rfl (lv_at hl 0 rfl) ?_
      refine lv_iload_n hx hb dX1_pick_31 rfl (lv_at hl 3 rfl) ?_
      refine cp_9_2_1 hx hb ht hown hK hN hP hD hS h_deal.1 h_deal.2 dX1_pick_32 (fun H locs hP hD hS => ?_)
      replace hI := IV.up hI h_deal.2 2 (ow_any n3)
      have f_9 : FI [(9, 2)] K I_8 (va_up I_8 deal (va_up (I_8 deal) 2 n3)) := FI.up h_deal.2 2 n3
      have e_10 : (va_up I_8 deal (va_up (I_8 deal) 2 n3)) deal 2 = n3 := FI.at I_8 deal 2 n3
      replace hC_0 := FI.tr hC_0 f_9 (by decide)
      generalize (va_up I_8 deal (va_up (I_8 deal) 2 n3)) = I_11 at hP hD hI f_9 e_10 hC_0
      refine W.widen (k := 0) (n := 0) (Nat.le_of_ble_eq_true rfl) (Nat.le_of_ble_eq_true rfl) ?_
      exact W.vret hx hb hr (fun t ht9 hW => ⟨⟨(I_11, J, E, B), rfl, ⟨hI, hE, hC_0, trivial⟩, ⟨by rw [ht9]; exact hP, hD⟩⟩, hS.F ht9⟩) hS.2.2 dX1_pick_35
    · have q_12 : (1 : Int32).toInt ≤ n.toInt := by have := (not_congr (ow_lt _ _)).mp c_4; omega
      refine lv_iload_n hx hb dX1_pick_16 rfl (lv_at hl 1 rfl) ?_
      refine lv_aload_n hx hb dX1_pick_17 rfl (lv_at hl 0 rfl) ?_
      refine cg_9_0_1 hx hb ht hown hK hN hP h_deal.1 h_deal.2 dX1_pick_18 ?_
      have hm_13 : (R deal 0) ∈ L ∧ K (R deal 0) = 39 := RT.o hRT h_deal.1 h_deal.2 0 (by decide)
      refine cn_39 hx hb hK hP hm_13.1 hm_13.2 dX1_pick_21 ?_
      refine lv_icmp_le (tgt := 36) hx hb dX1_pick_22 (by decide) (fun c_14 => ?_) (fun c_14 => ?_)
      · have q_15 : n.toInt ≤ (14 : Int32).toInt := (ow_le _ _).mp c_14
        refine lv_iload_n hx hb dX1_pick_36 rfl (lv_at hl 1 rfl) ?_
        refine lv_iconst (v := 1) hx hb dX1_pick_37 (by decide) ?_
        refine lv_isub hx hb dX1_pick_38 ?_
        refine lv_topi (fun v_16 ev_16 => ?_)
        have q_17 : v_16.toInt = n.toInt - (1 : Int32).toInt := ow_sub ev_16 (by omega) (by omega)
        refine lv_istore (lv' := [(4, .int v_16), (0, .ref deal), (1, .int n), (2, .int n2), (3, .int n3)]) hx hb dX1_pick_39 hl (by decide) rfl (fun ls hl => ?_)
        refine lv_aload_n hx hb dX1_pick_41 rfl (lv_at hl 1 rfl) ?_
        refine lv_iload hx hb dX1_pick_42 (lv_at hl 0 rfl) ?_
        refine lv_iload_n hx hb dX1_pick_44 rfl (lv_at hl 3 rfl) ?_
        refine lv_iload_n hx hb dX1_pick_45 rfl (lv_at hl 4 rfl) ?_
        have hFc := fr_free hD hS hA
        refine va_callv (va_runS (As := [.ref deal, .int v_16, .int n2, .int n3]) (rest := []) ⟨hx, hb, hml, hown, ht⟩ (c_pick13 l G cy _ L K R T I E J B deal v_16 n2 n3 hRT hI hE h_deal.1 h_deal.2 (by omega)) (va_cwS 4 ht (gs k_492 k_493 k_494 k_491) rfl rfl rfl (by decide +kernel) ⟨Nat.le_of_ble_eq_true rfl, Nat.le_of_ble_eq_true rfl⟩) ⟨En.blind, fun U hU hW => ⟨rfl, En.of hU hW hP hK hD hN⟩⟩ rfl rfl hl.1 rfl (lv_room (Nat.le_of_ble_eq_true rfl)) dX1_pick_46 ⟨Nat.le_of_ble_eq_true rfl, Nat.le_of_ble_eq_true rfl⟩) hS (fun q _ h => hFc q h) hFc (fun u_18 t9 H locs ht9 hvm hw hB hz1 hk1 hS => ?_)
        obtain ⟨I18, J18, E18, B18⟩ := u_18
        obtain ⟨hP1, hD1⟩ := hB
        rw [ht9] at hP1
        clear hI hE
        obtain ⟨hI, hE, xu_18I, wu_18⟩ := hw
        dsimp only at hI hE xu_18I wu_18
        have hP : va_P G vwCl (WC cy L K R I18 J18 E18 B18) H := hP1
        have hD : va_D A (WC cy L K R I18 J18 E18 B18) := hD1.weaken (fun _ _ _ h => hFc _ h)
        clear hFc hk1 hz1 hP1 hD1
        replace hC_0 := FI.tr hC_0 xu_18I (by decide)
        refine lv_aload_n hx hb dX1_pick_49 rfl (lv_at hl 1 rfl) ?_
        refine cg_9_0_1 hx hb ht hown hK hN hP h_deal.1 h_deal.2 dX1_pick_50 ?_
        refine lv_iload hx hb dX1_pick_53 (lv_at hl 0 rfl) ?_
        have q_19 : vp_in v_16 14 := vp_in_iff.mpr ⟨by omega, by omega⟩
        refine cl_39 hx hb hK hP hm_13.1 hm_13.2 q_19 dX1_pick_55 ?_
        refine lv_topi (fun v_20 ev_20 => ?_)
        refine lv_iload_n hx hb dX1_pick_56 rfl (lv_at hl 3 rfl) ?_
        refine lv_iand hx hb dX1_pick_57 ?_
        refine lv_topi (fun v_21 ev_21 => ?_)
        refine lv_if_ne (tgt := 76) hx hb dX1_pick_58 (by decide) (fun c_22 => ?_) (fun c_22 => ?_)
        · have q_23 : ¬ v_21.toInt = (0 : Int32).toInt := by have := (not_congr (ow_eq _ _)).mp c_22; omega
          refine W.widen (k := 0) (n := 0) (Nat.le_of_ble_eq_true rfl) (Nat.le_of_ble_eq_true rfl) ?_
          exact W.vret hx hb hr (fun t ht9 hW => ⟨⟨(I18, J18, E18, B18), rfl, ⟨hI, hE, hC_0, trivial⟩, ⟨by rw [ht9]; exact hP, hD⟩⟩, hS.F ht9⟩) hS.2.2 dX1_pick_76
        · have q_24 : v_21.toInt = (0 : Int32).toInt := (ow_eq _ _).mp c_22
          refine lv_aload_n hx hb dX1_pick_61 rfl (lv_at hl 1 rfl) ?_
          refine lv_iload hx hb dX1_pick_62 (lv_at hl 0 rfl) ?_
          refine lv_iload_n hx hb dX1_pick_64 rfl (lv_at hl 3 rfl) ?_
          refine lv_iconst (v := 1) hx hb dX1_pick_65 (by decide) ?_
          refine lv_iload hx hb dX1_pick_66 (lv_at hl 0 rfl) ?_
          refine lv_ishl hx hb dX1_pick_68 ?_
          refine lv_topi (fun v_25 ev_25 => ?_)
          refine lv_ior hx hb dX1_pick_69 ?_
          refine lv_topi (fun v_26 ev_26 => ?_)
          refine lv_iload_n hx hb dX1_pick_70 rfl (lv_at hl 4 rfl) ?_
          refine lv_iconst (v := 1) hx hb dX1_pick_71 (by decide) ?_
          refine lv_iadd hx hb dX1_pick_72 ?_
          refine lv_topi (fun v_27 ev_27 => ?_)
          have hFc := fr_free hD hS hA
          refine va_callv (va_runS (As := [.ref deal, .int v_16, .int v_26, .int v_27]) (rest := []) ⟨hx, hb, hml, hown, ht⟩ (c_pick13 l G cy _ L K R T I18 E18 J18 B18 deal v_16 v_26 v_27 hRT hI hE h_deal.1 h_deal.2 (by omega)) (va_cwS 4 ht (gs k_492 k_493 k_494 k_491) rfl rfl rfl (by decide +kernel) ⟨Nat.le_of_ble_eq_true rfl, Nat.le_of_ble_eq_true rfl⟩) ⟨En.blind, fun U hU hW => ⟨rfl, En.of hU hW hP hK hD hN⟩⟩ rfl rfl hl.1 rfl (lv_room (Nat.le_of_ble_eq_true rfl)) dX1_pick_73 ⟨Nat.le_of_ble_eq_true rfl, Nat.le_of_ble_eq_true rfl⟩) hS (fun q _ h => hFc q h) hFc (fun u_28 t9 H locs ht9 hvm hw hB hz1 hk1 hS => ?_)
          obtain ⟨I28, J28, E28, B28⟩ := u_28
          obtain ⟨hP1, hD1⟩ := hB
          rw [ht9] at hP1
          clear hI hE
          obtain ⟨hI, hE, xu_28I, wu_28⟩ := hw
          dsimp only at hI hE xu_28I wu_28
          have hP : va_P G vwCl (WC cy L K R I28 J28 E28 B28) H := hP1
          have hD : va_D A (WC cy L K R I28 J28 E28 B28) := hD1.weaken (fun _ _ _ h => hFc _ h)
          clear hFc hk1 hz1 hP1 hD1
          replace hC_0 := FI.tr hC_0 xu_28I (by decide)
          refine W.widen (k := 0) (n := 0) (Nat.le_of_ble_eq_true rfl) (Nat.le_of_ble_eq_true rfl) ?_
          exact W.vret hx hb hr (fun t ht9 hW => ⟨⟨(I28, J28, E28, B28), rfl, ⟨hI, hE, hC_0, trivial⟩, ⟨by rw [ht9]; exact hP, hD⟩⟩, hS.F ht9⟩) hS.2.2 dX1_pick_76
      · have q_29 : (14 : Int32).toInt < n.toInt := by have := (not_congr (ow_le _ _)).mp c_14; omega
        exfalso
        omega
  · have q_30 : v_1.toInt ≤ (I deal 2).toInt := by have := (not_congr (ow_lt _ _)).mp c_2; omega
    refine W.widen (k := 0) (n := 0) (Nat.le_of_ble_eq_true rfl) (Nat.le_of_ble_eq_true rfl) ?_
    exact W.vret hx hb hr (fun t ht9 hW => ⟨⟨(I, J, E, B), rfl, ⟨hI, hE, hC_0, trivial⟩, ⟨by rw [ht9]; exact hP, hD⟩⟩, hS.F ht9⟩) hS.2.2 dX1_pick_10
set_option maxHeartbeats 4000000 in
set_option maxRecDepth 100000 in
theorem c_choose (l : Launch) (G : va_G) (cy : Nat → ClassId) (sz : Nat) (L : List Nat) (K : Nat → Nat) (R : Nat → Nat → Nat) (T : Int) (I E : Nat → Nat → Int32) (J B : Nat → Nat → Int64) (this : Nat) (town : Nat) (n : Int32) (hRT : RT L K R) (hI : IV T L K I) (hE : EV L K E) (hthis1 : this ∈ L) (hthis2 : K this = 9) (h_town1 : town ∈ L) (h_town2 : K town = 1) : Met l yX1_choose (.code yX1_choose cX1_choose 5 (some .int) :: TBg) ({ frames := 16, cells := 0, slots := 0, locals := 1024 }) (va_Pc [.ref this, .ref town, .int n] (En G cy (WC cy L K R I J E B) sz)) (va_Qi (fun (r : Int32) (u : (Nat → Nat → Int32) × (Nat → Nat → Int64) × (Nat → Nat → Int32) × (Nat → Nat → Int64)) => IV T L K u.1 ∧ EV L K u.2.2.1 ∧ FI [(9, 1), (9, 2)] K I u.1 ∧ (True)) (fun u t => Ex G (va_A (WC cy L K R I J E B) sz) (WC cy L K R u.1 u.2.1 u.2.2.1 u.2.2.2) t) (va_A (WC cy L K R I J E B) sz)) 0 0 (va_A (WC cy L K R I J E B) sz) := by
  have hthis : this ∈ L ∧ K this = 9 := ⟨hthis1, hthis2⟩
  have h_town : town ∈ L ∧ K town = 1 := ⟨h_town1, h_town2⟩
  refine Met.ofW (cc := cX1_choose) (maxL := 5) (ret := (some .int)) (by decide) rfl ?_
  intro p e s m args below meth c s₁ B9 hml hv9
  obtain ⟨rfl, hsz, hP, hK, hD0, hN⟩ := hv9
  have hx := B9.exec
  have hb := B9.bytes
  have hr := B9.returns
  have hts := atoms_spec (ws := .code yX1_choose cX1_choose 5 (some .int) :: TBg) B9.pre
  have ht : ∀ w ∈ TBg, w.before _ s = true := fun w h => hts w (List.mem_cons_of_mem _ h)
  have hown : s.vm.findClass RX1 = some m.cls := findClass_of_methodNamed B9.named
  have hlocks := B9.notSynchronized
  subst hsz
  have hD := hD0.self (sz := s.heap.size)
  generalize hAe : va_A (WC cy L K R I J E B) s.heap.size = A at hD ⊢
  have hA : ∀ q : Nat, s.heap.size ≤ q → A q := fun q h => by rw [← hAe]; exact Or.inr h
  have hS : va_S A s.heap s.heap [] := va_S.rf
  have hl := lv_entry ([.ref this, .ref town, .int n]) (n := 5) (Nat.le_of_ble_eq_true rfl)
  rw [lg_entry_eq]
  generalize (lg_sl ([.ref this, .ref town, .int n]) ++ List.replicate (5 - (lg_sl ([.ref this, .ref town, .int n])).length) Slot.unset).toArray = ls at hl ⊢
  have hl : lv_has ls 5 [(0, .ref this), (1, .ref town), (2, .int n)] := hl
  have z0 : (-1 : Int32).toInt = -1 := by decide
  have z1 : (0 : Int32).toInt = 0 := by decide
  have z2 : (1 : Int32).toInt = 1 := by decide
  have hC_0 : FI [(9, 1), (9, 2)] K I I := FI.rf
  refine lv_iconst (v := 0) hx hb dX1_choose_0 (by decide) ?_
  refine lv_istore_n (lv' := [(3, .int 0), (0, .ref this), (1, .ref town), (2, .int n)]) hx hb dX1_choose_1 rfl hl (by decide) rfl (fun ls hl => ?_)
  refine W.widen (k := 0) (n := 0) (Nat.le_of_ble_eq_true rfl) (Nat.le_of_ble_eq_true rfl) ?_
  have lp_1 : ∀ (N_1 : Nat) (x3_1 : Int32) (I1 : Nat → Nat → Int32) (J1 : Nat → Nat → Int64) (E1 : Nat → Nat → Int32) (B1 : Nat → Nat → Int64) (H : Heap) (locs : List Loc) (ls : Array Slot), IV T L K I1 → EV L K E1 → FI [(9, 1), (9, 2)] K I I1 → (0 ≤ x3_1.toInt ∧ x3_1.toInt ≤ 14) → (14 - x3_1.toInt).toNat < N_1 → va_P G vwCl (WC cy L K R I1 J1 E1 B1) H → va_D A (WC cy L K R I1 J1 E1 B1) → va_S A s.heap H locs → lv_has ls 5 [(3, .int x3_1), (0, .ref this), (1, .ref town), (2, .int n)] → W p l e (headSpec (.code yX1_choose cX1_choose 5 (some .int) :: TBg) ({ frames := 16, cells := 0, slots := 0, locals := 1024 })).room s m ([.ref this, .ref town, .int n] : List Value).toArray below meth c H locs 0 0 (MQ below (va_Qi (fun (r : Int32) (u : (Nat → Nat → Int32) × (Nat → Nat → Int64) × (Nat → Nat → Int32) × (Nat → Nat → Int64)) => IV T L K u.1 ∧ EV L K u.2.2.1 ∧ FI [(9, 1), (9, 2)] K I u.1 ∧ (True)) (fun u t => Ex G A (WC cy L K R u.1 u.2.1 u.2.2.1 u.2.2.2) t) A) ([.ref this, .ref town, .int n] : List Value).toArray s 0 0 A) (F0 m 2 ls []) := by
    intro N_1
    induction N_1 with
    | zero => intro x3_1 I1 J1 E1 B1 H locs ls hI hE hC_1 qf1_0 hm9 hP hD hS hl; exact absurd hm9 (Nat.not_lt_zero _)
    | succ N_1 ih_1 =>
      intro x3_1 I1 J1 E1 B1 H locs ls hI hE hC_1 qf1_0 hm9 hP hD hS hl
      replace hC_0 := FI.tr hC_0 hC_1 (by decide)
      have hX_1 := hC_1
      refine lv_iload_n hx hb dX1_choose_2 rfl (lv_at hl 0 rfl) ?_
      refine lv_aload_n hx hb dX1_choose_3 rfl (lv_at hl 2 rfl) ?_
      refine cg_1_3_1 hx hb ht hown hK hN hP h_town.1 h_town.2 dX1_choose_4 ?_
      refine ow_top (I town 3) (hC_1 town 3 (by rw [h_town.2]; decide)) ?_
      have q_2 : 0 ≤ (I town 3).toInt ∧ (I town 3).toInt ≤ 14 := by have h9 : I1 town 3 = (I town 3) := (hC_1 town 3 (by rw [h_town.2]; decide)); rw [← h9]; exact IV.rd hI h_town.1 h_town.2 3
      refine lv_icmp_ge (tgt := 71) hx hb dX1_choose_7 (by decide) (fun c_3 => ?_) (fun c_3 => ?_)
      · have q_4 : (I town 3).toInt ≤ x3_1.toInt := (ow_le _ _).mp c_3
        refine lv_aload_n hx hb dX1_choose_71 rfl (lv_at hl 1 rfl) ?_
        refine lv_iconst (v := 0) hx hb dX1_choose_72 (by decide) ?_
        refine cp_9_1_1 hx hb ht hown hK hN hP hD hS hthis.1 hthis.2 dX1_choose_73 (fun H locs hP hD hS => ?_)
        replace hI := IV.up hI hthis.2 1 (ow_any (0 : Int32))
        have f_5 : FI [(9, 1)] K I1 (va_up I1 this (va_up (I1 this) 1 0)) := FI.up hthis.2 1 (0 : Int32)
        have e_6 : (va_up I1 this (va_up (I1 this) 1 0)) this 1 = 0 := FI.at I1 this 1 (0 : Int32)
        replace hC_0 := FI.tr hC_0 f_5 (by decide)
        replace hX_1 := FI.tr hX_1 f_5 (by decide)
        generalize (va_up I1 this (va_up (I1 this) 1 0)) = I_7 at hP hD hI f_5 e_6 hC_0 hX_1
        refine lv_aload_n hx hb dX1_choose_76 rfl (lv_at hl 1 rfl) ?_
        refine lv_iconst (v := (-1)) hx hb dX1_choose_77 (by decide) ?_
        refine cp_9_2_1 hx hb ht hown hK hN hP hD hS hthis.1 hthis.2 dX1_choose_78 (fun H locs hP hD hS => ?_)
        replace hI := IV.up hI hthis.2 2 (ow_any ((-1) : Int32))
        have f_8 : FI [(9, 2)] K I_7 (va_up I_7 this (va_up (I_7 this) 2 (-1))) := FI.up hthis.2 2 ((-1) : Int32)
        have e_9 : (va_up I_7 this (va_up (I_7 this) 2 (-1))) this 2 = (-1) := FI.at I_7 this 2 ((-1) : Int32)
        replace hC_0 := FI.tr hC_0 f_8 (by decide)
        replace hX_1 := FI.tr hX_1 f_8 (by decide)
        generalize (va_up I_7 this (va_up (I_7 this) 2 (-1))) = I_10 at hP hD hI f_8 e_9 hC_0 hX_1
        refine lv_aload_n hx hb dX1_choose_81 rfl (lv_at hl 1 rfl) ?_
        refine lv_aload_n hx hb dX1_choose_82 rfl (lv_at hl 2 rfl) ?_
        refine cg_1_3_1 hx hb ht hown hK hN hP h_town.1 h_town.2 dX1_choose_83 ?_
        refine ow_top (I town 3) ((f_8 town 3 (by rw [h_town.2]; decide)).trans ((f_5 town 3 (by rw [h_town.2]; decide)).trans (hC_1 town 3 (by rw [h_town.2]; decide)))) ?_
        refine lv_iconst (v := 0) hx hb dX1_choose_86 (by decide) ?_
        refine lv_iconst (v := 0) hx hb dX1_choose_87 (by decide) ?_
        have hFc := fr_free hD hS hA
        refine va_callv (va_runS (As := [.ref this, .int (I town 3), .int 0, .int 0]) (rest := []) ⟨hx, hb, hml, hown, ht⟩ (c_pick14 l G cy _ L K R T I_10 E1 J1 B1 this (I town 3) (0) (0) hRT hI hE hthis.1 hthis.2 (by omega)) (va_cwS 4 ht (gs k_492 k_493 k_494 k_491) rfl rfl rfl (by decide +kernel) ⟨Nat.le_of_ble_eq_true rfl, Nat.le_of_ble_eq_true rfl⟩) ⟨En.blind, fun U hU hW => ⟨rfl, En.of hU hW hP hK hD hN⟩⟩ rfl rfl hl.1 rfl (lv_room (Nat.le_of_ble_eq_true rfl)) dX1_choose_88 ⟨Nat.le_of_ble_eq_true rfl, Nat.le_of_ble_eq_true rfl⟩) hS (fun q _ h => hFc q h) hFc (fun u_11 t9 H locs ht9 hvm hw hB hz1 hk1 hS => ?_)
        obtain ⟨I11, J11, E11, B11⟩ := u_11
        obtain ⟨hP1, hD1⟩ := hB
        rw [ht9] at hP1
        clear hI hE
        obtain ⟨hI, hE, xu_11I, wu_11⟩ := hw
        dsimp only at hI hE xu_11I wu_11
        have hP : va_P G vwCl (WC cy L K R I11 J11 E11 B11) H := hP1
        have hD : va_D A (WC cy L K R I11 J11 E11 B11) := hD1.weaken (fun _ _ _ h => hFc _ h)
        clear hFc hk1 hz1 hP1 hD1
        replace hC_0 := FI.tr hC_0 xu_11I (by decide)
        replace hX_1 := FI.tr hX_1 xu_11I (by decide)
        refine lv_aload_n hx hb dX1_choose_91 rfl (lv_at hl 1 rfl) ?_
        refine cg_9_1_1 hx hb ht hown hK hN hP hthis.1 hthis.2 dX1_choose_92 ?_
        refine W.widen (k := 0) (n := 0) (Nat.le_of_ble_eq_true rfl) (Nat.le_of_ble_eq_true rfl) ?_
        exact W.iret (v := (I11 this 1)) hx hb hr (fun t ht9 hW => ⟨⟨(I11 this 1), (I11, J11, E11, B11), rfl, ⟨hI, hE, hC_0, trivial⟩, ⟨by rw [ht9]; exact hP, hD⟩⟩, hS.F ht9⟩) hS.2.2 dX1_choose_95
      · have q_12 : x3_1.toInt < (I town 3).toInt := by have := (not_congr (ow_le _ _)).mp c_3; omega
        refine lv_aload_n hx hb dX1_choose_10 rfl (lv_at hl 1 rfl) ?_
        refine cg_9_0_1 hx hb ht hown hK hN hP hthis.1 hthis.2 dX1_choose_11 ?_
        have hm_13 : (R this 0) ∈ L ∧ K (R this 0) = 39 := RT.o hRT hthis.1 hthis.2 0 (by decide)
        refine lv_iload_n hx hb dX1_choose_14 rfl (lv_at hl 0 rfl) ?_
        refine lv_iconst (v := 0) hx hb dX1_choose_15 (by decide) ?_
        have q_14 : vp_in x3_1 14 := vp_in_iff.mpr ⟨by omega, by omega⟩
        refine cs_39 hx hb hK hP hD hS hm_13.1 hm_13.2 q_14 dX1_choose_16 (fun H locs hP hD hS => ?_)
        replace hE := EV.up hE hm_13.2 (i := (Int32.toNatClampNeg x3_1)) (ow_any (0 : Int32))
        generalize (va_up E1 (R this 0) (upd (E1 (R this 0)) (Int32.toNatClampNeg x3_1) 0)) = E_15 at hP hD hE
        refine lv_iconst (v := 0) hx hb dX1_choose_17 (by decide) ?_
        refine lv_istore (lv' := [(4, .int 0), (3, .int x3_1), (0, .ref this), (1, .ref town), (2, .int n)]) hx hb dX1_choose_18 hl (by decide) rfl (fun ls hl => ?_)
        refine W.widen (k := 0) (n := 0) (Nat.le_of_ble_eq_true rfl) (Nat.le_of_ble_eq_true rfl) ?_
        have lp_16 : ∀ (N_16 : Nat) (x4_16 : Int32) (I16 : Nat → Nat → Int32) (J16 : Nat → Nat → Int64) (E16 : Nat → Nat → Int32) (B16 : Nat → Nat → Int64) (H : Heap) (locs : List Loc) (ls : Array Slot), IV T L K I16 → EV L K E16 → FI [(9, 1), (9, 2)] K I1 I16 → (0 ≤ x4_16.toInt ∧ x4_16.toInt ≤ 14) → (14 - x4_16.toInt).toNat < N_16 → va_P G vwCl (WC cy L K R I16 J16 E16 B16) H → va_D A (WC cy L K R I16 J16 E16 B16) → va_S A s.heap H locs → lv_has ls 5 [(4, .int x4_16), (3, .int x3_1), (0, .ref this), (1, .ref town), (2, .int n)] → W p l e (headSpec (.code yX1_choose cX1_choose 5 (some .int) :: TBg) ({ frames := 16, cells := 0, slots := 0, locals := 1024 })).room s m ([.ref this, .ref town, .int n] : List Value).toArray below meth c H locs 0 0 (MQ below (va_Qi (fun (r : Int32) (u : (Nat → Nat → Int32) × (Nat → Nat → Int64) × (Nat → Nat → Int32) × (Nat → Nat → Int64)) => IV T L K u.1 ∧ EV L K u.2.2.1 ∧ FI [(9, 1), (9, 2)] K I u.1 ∧ (True)) (fun u t => Ex G A (WC cy L K R u.1 u.2.1 u.2.2.1 u.2.2.2) t) A) ([.ref this, .ref town, .int n] : List Value).toArray s 0 0 A) (F0 m 20 ls []) := by
          intro N_16
          induction N_16 with
          | zero => intro x4_16 I16 J16 E16 B16 H locs ls hI hE hC_16 qf16_0 hm9 hP hD hS hl; exact absurd hm9 (Nat.not_lt_zero _)
          | succ N_16 ih_16 =>
            intro x4_16 I16 J16 E16 B16 H locs ls hI hE hC_16 qf16_0 hm9 hP hD hS hl
            replace hC_0 := FI.tr hC_0 hC_16 (by decide)
            replace hX_1 := FI.tr hX_1 hC_16 (by decide)
            have hX_16 := hC_16
            refine lv_iload hx hb dX1_choose_20 (lv_at hl 0 rfl) ?_
            refine lv_aload_n hx hb dX1_choose_22 rfl (lv_at hl 3 rfl) ?_
            refine cg_1_3_1 hx hb ht hown hK hN hP h_town.1 h_town.2 dX1_choose_23 ?_
            refine ow_top (I town 3) ((hC_16 town 3 (by rw [h_town.2]; decide)).trans (hC_1 town 3 (by rw [h_town.2]; decide))) ?_
            have q_17 : 0 ≤ (I town 3).toInt ∧ (I town 3).toInt ≤ 14 := by have h9 : I16 town 3 = (I town 3) := ((hC_16 town 3 (by rw [h_town.2]; decide)).trans (hC_1 town 3 (by rw [h_town.2]; decide))); rw [← h9]; exact IV.rd hI h_town.1 h_town.2 3
            refine lv_icmp_ge (tgt := 65) hx hb dX1_choose_26 (by decide) (fun c_18 => ?_) (fun c_18 => ?_)
            · have q_19 : (I town 3).toInt ≤ x4_16.toInt := (ow_le _ _).mp c_18
              obtain ⟨v_20, ev_20⟩ : ∃ y : Int32, y = x3_1 + 1 := ⟨_, rfl⟩
              refine lv_iinc (v := v_20) (lv' := [(3, .int v_20), (4, .int x4_16), (0, .ref this), (1, .ref town), (2, .int n)]) hx hb dX1_choose_65 hl (k := 1) rfl (by rw [ev_20]; rfl) (by decide) rfl (fun ls hl => ?_)
              have q_21 : v_20.toInt = x3_1.toInt + 1 := by have := ow_add ev_20 (by omega) (by omega); omega
              refine lv_goto (tgt := 2) hx hb dX1_choose_68 (by decide) ?_
              refine W.widen (k := 0) (n := 0) (Nat.le_of_ble_eq_true rfl) (Nat.le_of_ble_eq_true rfl) ?_
              exact ih_1 v_20 I16 J16 E16 B16 _ _ _ hI hE hX_1 (by omega) (by omega) hP hD hS (lv_sub hl [0, 2, 3, 4] rfl)
            · have q_22 : x4_16.toInt < (I town 3).toInt := by have := (not_congr (ow_le _ _)).mp c_18; omega
              refine lv_iload_n hx hb dX1_choose_29 rfl (lv_at hl 1 rfl) ?_
              refine lv_iload hx hb dX1_choose_30 (lv_at hl 0 rfl) ?_
              refine lv_icmp_eq (tgt := 59) hx hb dX1_choose_32 (by decide) (fun c_23 => ?_) (fun c_23 => ?_)
              · have q_24 : x3_1.toInt = x4_16.toInt := (ow_eq _ _).mp c_23
                obtain ⟨v_25, ev_25⟩ : ∃ y : Int32, y = x4_16 + 1 := ⟨_, rfl⟩
                refine lv_iinc (v := v_25) (lv' := [(4, .int v_25), (3, .int x3_1), (0, .ref this), (1, .ref town), (2, .int n)]) hx hb dX1_choose_59 hl (k := 0) rfl (by rw [ev_25]; rfl) (by decide) rfl (fun ls hl => ?_)
                have q_26 : v_25.toInt = x4_16.toInt + 1 := by have := ow_add ev_25 (by omega) (by omega); omega
                refine lv_goto (tgt := 20) hx hb dX1_choose_62 (by decide) ?_
                refine W.widen (k := 0) (n := 0) (Nat.le_of_ble_eq_true rfl) (Nat.le_of_ble_eq_true rfl) ?_
                exact ih_16 v_25 I16 J16 E16 B16 _ _ _ hI hE hX_16 (by omega) (by omega) hP hD hS (lv_sub hl [0, 1, 2, 3, 4] rfl)
              · have q_27 : ¬ x3_1.toInt = x4_16.toInt := by have := (not_congr (ow_eq _ _)).mp c_23; omega
                refine lv_aload_n hx hb dX1_choose_35 rfl (lv_at hl 3 rfl) ?_
                refine lv_iload_n hx hb dX1_choose_36 rfl (lv_at hl 1 rfl) ?_
                refine lv_iload hx hb dX1_choose_37 (lv_at hl 0 rfl) ?_
                refine lv_iload_n hx hb dX1_choose_39 rfl (lv_at hl 4 rfl) ?_
                have hFc := fr_new hS hA
                refine va_calli (va_runV (As := [.int x3_1, .int x4_16, .int n]) (rest := []) ⟨hx, hb, hml, hown, ht⟩ (c_tisNear l G cy _ L K R T I16 E16 J16 B16 town x3_1 x4_16 n hRT hI hE h_town.1 h_town.2 (by omega) (by omega)) (cwV 3 ht (gv k_496 k_497 k_498 k_461 k_495) rfl rfl rfl (by decide +kernel) ⟨Nat.le_of_ble_eq_true rfl, Nat.le_of_ble_eq_true rfl⟩) ⟨En.blind, cr_1 hK hP h_town.1 h_town.2, fun U hU hW => ⟨rfl, En.of hU hW hP hK hD hN⟩⟩ rfl rfl hl.1 rfl (lv_room (Nat.le_of_ble_eq_true rfl)) dX1_choose_40 ⟨Nat.le_of_ble_eq_true rfl, Nat.le_of_ble_eq_true rfl⟩) hS (fun q _ h => hFc q h) hFc (fun r_u_28 u_28 t9 H locs ht9 hvm hw hB hz1 hk1 hS => ?_)
                have hP := fr_keep hP hk1
                have wu_28 := hw
                clear hFc hk1 hz1 hB hw
                refine lv_if_eq (tgt := 59) hx hb dX1_choose_43 (by decide) (fun c_29 => ?_) (fun c_29 => ?_)
                · have q_30 : r_u_28.toInt = (0 : Int32).toInt := (ow_eq _ _).mp c_29
                  obtain ⟨v_31, ev_31⟩ : ∃ y : Int32, y = x4_16 + 1 := ⟨_, rfl⟩
                  refine lv_iinc (v := v_31) (lv' := [(4, .int v_31), (3, .int x3_1), (0, .ref this), (1, .ref town), (2, .int n)]) hx hb dX1_choose_59 hl (k := 0) rfl (by rw [ev_31]; rfl) (by decide) rfl (fun ls hl => ?_)
                  have q_32 : v_31.toInt = x4_16.toInt + 1 := by have := ow_add ev_31 (by omega) (by omega); omega
                  refine lv_goto (tgt := 20) hx hb dX1_choose_62 (by decide) ?_
                  refine W.widen (k := 0) (n := 0) (Nat.le_of_ble_eq_true rfl) (Nat.le_of_ble_eq_true rfl) ?_
                  exact ih_16 v_31 I16 J16 E16 B16 _ _ _ hI hE hX_16 (by omega) (by omega) hP hD hS (lv_sub hl [0, 1, 2, 3, 4] rfl)
                · have q_33 : ¬ r_u_28.toInt = (0 : Int32).toInt := by have := (not_congr (ow_eq _ _)).mp c_29; omega
                  refine lv_aload_n hx hb dX1_choose_46 rfl (lv_at hl 2 rfl) ?_
                  refine cg_9_0_1 hx hb ht hown hK hN hP hthis.1 hthis.2 dX1_choose_47 ?_
                  refine lv_iload_n hx hb dX1_choose_50 rfl (lv_at hl 1 rfl) ?_
                  refine lv_dup2_11 hx hb dX1_choose_51 rfl rfl ?_
                  have q_34 : vp_in x3_1 14 := vp_in_iff.mpr ⟨by omega, by omega⟩
                  refine cl_39 hx hb hK hP hm_13.1 hm_13.2 q_34 dX1_choose_52 ?_
                  refine lv_topi (fun v_35 ev_35 => ?_)
                  refine lv_iconst (v := 1) hx hb dX1_choose_53 (by decide) ?_
                  refine lv_iload hx hb dX1_choose_54 (lv_at hl 0 rfl) ?_
                  refine lv_ishl hx hb dX1_choose_56 ?_
                  refine lv_topi (fun v_36 ev_36 => ?_)
                  refine lv_ior hx hb dX1_choose_57 ?_
                  refine lv_topi (fun v_37 ev_37 => ?_)
                  have q_38 : vp_in x3_1 14 := vp_in_iff.mpr ⟨by omega, by omega⟩
                  refine cs_39 hx hb hK hP hD hS hm_13.1 hm_13.2 q_38 dX1_choose_58 (fun H locs hP hD hS => ?_)
                  replace hE := EV.up hE hm_13.2 (i := (Int32.toNatClampNeg x3_1)) (ow_any v_37)
                  generalize (va_up E16 (R this 0) (upd (E16 (R this 0)) (Int32.toNatClampNeg x3_1) v_37)) = E_39 at hP hD hE
                  obtain ⟨v_40, ev_40⟩ : ∃ y : Int32, y = x4_16 + 1 := ⟨_, rfl⟩
                  refine lv_iinc (v := v_40) (lv' := [(4, .int v_40), (3, .int x3_1), (0, .ref this), (1, .ref town), (2, .int n)]) hx hb dX1_choose_59 hl (k := 0) rfl (by rw [ev_40]; rfl) (by decide) rfl (fun ls hl => ?_)
                  have q_41 : v_40.toInt = x4_16.toInt + 1 := by have := ow_add ev_40 (by omega) (by omega); omega
                  refine lv_goto (tgt := 20) hx hb dX1_choose_62 (by decide) ?_
                  refine W.widen (k := 0) (n := 0) (Nat.le_of_ble_eq_true rfl) (Nat.le_of_ble_eq_true rfl) ?_
                  exact ih_16 v_40 I16 J16 E_39 B16 _ _ _ hI hE hX_16 (by omega) (by omega) hP hD hS (lv_sub hl [0, 1, 2, 3, 4] rfl)
        exact lp_16 _ (0) I1 J1 E_15 B1 _ _ _ hI hE FI.rf (by omega) (Nat.lt_succ_self _) hP hD hS (lv_sub hl [0, 1, 2, 3, 4] rfl)
  exact lp_1 _ (0) I J E B _ _ _ hI hE FI.rf (by omega) (Nat.lt_succ_self _) hP hD hS (lv_sub hl [0, 1, 2, 3] rfl)
set_option maxHeartbeats 4000000 in
set_option maxRecDepth 100000 in
theorem c_take (l : Launch) (G : va_G) (cy : Nat → ClassId) (sz : Nat) (L : List Nat) (K : Nat → Nat) (R : Nat → Nat → Nat) (T : Int) (I E : Nat → Nat → Int32) (J B : Nat → Nat → Int64) (this : Nat) (tune : Nat) (hRT : RT L K R) (hI : IV T L K I) (hE : EV L K E) (hthis1 : this ∈ L) (hthis2 : K this = 11) (h_tune1 : tune ∈ L) (h_tune2 : K tune = 2) : Met l yX0_take (.code yX0_take cX0_take 4 none :: TBg) ({ frames := 1, cells := 0, slots := 0, locals := 64 }) (va_Pc [.ref this, .ref tune] (En G cy (WC cy L K R I J E B) sz)) (va_Qv (fun (u : (Nat → Nat → Int32) × (Nat → Nat → Int64) × (Nat → Nat → Int32) × (Nat → Nat → Int64)) => IV T L K u.1 ∧ EV L K u.2.2.1 ∧ FI [(11, 1)] K I u.1 ∧ (True)) (fun u t => Ex G (va_A (WC cy L K R I J E B) sz) (WC cy L K R u.1 u.2.1 u.2.2.1 u.2.2.2) t) (va_A (WC cy L K R I J E B) sz)) 0 0 (va_A (WC cy L K R I J E B) sz) := by
  have hthis : this ∈ L ∧ K this = 11 := ⟨hthis1, hthis2⟩
  have h_tune : tune ∈ L ∧ K tune = 2 := ⟨h_tune1, h_tune2⟩
  refine Met.ofW (cc := cX0_take) (maxL := 4) (ret := none) (by decide) rfl ?_
  intro p e s m args below meth c s₁ B9 hml hv9
  obtain ⟨rfl, hsz, hP, hK, hD0, hN⟩ := hv9
  have hx := B9.exec
  have hb := B9.bytes
  have hr := B9.returns
  have hts := atoms_spec (ws := .code yX0_take cX0_take 4 none :: TBg) B9.pre
  have ht : ∀ w ∈ TBg, w.before _ s = true := fun w h => hts w (List.mem_cons_of_mem _ h)
  have hown : s.vm.findClass RX0 = some m.cls := findClass_of_methodNamed B9.named
  have hlocks := B9.notSynchronized
  subst hsz
  have hD := hD0.self (sz := s.heap.size)
  generalize hAe : va_A (WC cy L K R I J E B) s.heap.size = A at hD ⊢
  have hA : ∀ q : Nat, s.heap.size ≤ q → A q := fun q h => by rw [← hAe]; exact Or.inr h
  have hS : va_S A s.heap s.heap [] := va_S.rf
  have hl := lv_entry ([.ref this, .ref tune]) (n := 4) (Nat.le_of_ble_eq_true rfl)
  rw [lg_entry_eq]
  generalize (lg_sl ([.ref this, .ref tune]) ++ List.replicate (4 - (lg_sl ([.ref this, .ref tune])).length) Slot.unset).toArray = ls at hl ⊢
  have hl : lv_has ls 4 [(0, .ref this), (1, .ref tune)] := hl
  have z0 : (0 : Int32).toInt = 0 := by decide
  have z1 : (1 : Int32).toInt = 1 := by decide
  have z2 : (108 : Int32).toInt = 108 := by decide
  have hC_0 : FI [(11, 1)] K I I := FI.rf
  refine lv_aload_n hx hb dX0_take_0 rfl (lv_at hl 0 rfl) ?_
  refine lv_iconst (v := 0) hx hb dX0_take_1 (by decide) ?_
  refine cp_11_1_0 hx hb ht hown hK hN hP hD hS hthis.1 hthis.2 dX0_take_2 (fun H locs hP hD hS => ?_)
  replace hI := IV.up hI hthis.2 1 (show 0 ≤ (0 : Int32).toInt ∧ (0 : Int32).toInt ≤ 108 from by omega)
  have f_1 : FI [(11, 1)] K I (va_up I this (va_up (I this) 1 0)) := FI.up hthis.2 1 (0 : Int32)
  have e_2 : (va_up I this (va_up (I this) 1 0)) this 1 = 0 := FI.at I this 1 (0 : Int32)
  replace hC_0 := FI.tr hC_0 f_1 (by decide)
  generalize (va_up I this (va_up (I this) 1 0)) = I_3 at hP hD hI f_1 e_2 hC_0
  refine lv_iconst (v := 0) hx hb dX0_take_5 (by decide) ?_
  refine lv_istore_n (lv' := [(2, .int 0), (0, .ref this), (1, .ref tune)]) hx hb dX0_take_6 rfl hl (by decide) rfl (fun ls hl => ?_)
  refine W.widen (k := 0) (n := 0) (Nat.le_of_ble_eq_true rfl) (Nat.le_of_ble_eq_true rfl) ?_
  have lp_4 : ∀ (N_4 : Nat) (x2_4 : Int32) (I4 : Nat → Nat → Int32) (J4 : Nat → Nat → Int64) (E4 : Nat → Nat → Int32) (B4 : Nat → Nat → Int64) (H : Heap) (locs : List Loc) (ls : Array Slot), IV T L K I4 → EV L K E4 → FI [(11, 1)] K I_3 I4 → (0 ≤ x2_4.toInt ∧ x2_4.toInt ≤ 12) → (12 - x2_4.toInt).toNat < N_4 → va_P G vwCl (WC cy L K R I4 J4 E4 B4) H → va_D A (WC cy L K R I4 J4 E4 B4) → va_S A s.heap H locs → lv_has ls 4 [(2, .int x2_4), (0, .ref this), (1, .ref tune)] → W p l e (headSpec (.code yX0_take cX0_take 4 none :: TBg) ({ frames := 1, cells := 0, slots := 0, locals := 64 })).room s m ([.ref this, .ref tune] : List Value).toArray below meth c H locs 0 0 (MQ below (va_Qv (fun (u : (Nat → Nat → Int32) × (Nat → Nat → Int64) × (Nat → Nat → Int32) × (Nat → Nat → Int64)) => IV T L K u.1 ∧ EV L K u.2.2.1 ∧ FI [(11, 1)] K I u.1 ∧ (True)) (fun u t => Ex G A (WC cy L K R u.1 u.2.1 u.2.2.1 u.2.2.2) t) A) ([.ref this, .ref tune] : List Value).toArray s 0 0 A) (F0 m 7 ls []) := by
    intro N_4
    induction N_4 with
    | zero => intro x2_4 I4 J4 E4 B4 H locs ls hI hE hC_4 qf4_0 hm9 hP hD hS hl; exact absurd hm9 (Nat.not_lt_zero _)
    | succ N_4 ih_4 =>
      intro x2_4 I4 J4 E4 B4 H locs ls hI hE hC_4 qf4_0 hm9 hP hD hS hl
      replace hC_0 := FI.tr hC_0 hC_4 (by decide)
      have hX_4 := hC_4
      refine lv_iload_n hx hb dX0_take_7 rfl (lv_at hl 0 rfl) ?_
      refine lv_aload_n hx hb dX0_take_8 rfl (lv_at hl 2 rfl) ?_
      refine cg_2_2_0 hx hb ht hown hK hN hP h_tune.1 h_tune.2 dX0_take_9 ?_
      refine ow_top (I tune 2) ((hC_4 tune 2 (by rw [h_tune.2]; decide)).trans (f_1 tune 2 (by rw [h_tune.2]; decide))) ?_
      have q_5 : 0 ≤ (I tune 2).toInt ∧ (I tune 2).toInt ≤ 12 := by have h9 : I4 tune 2 = (I tune 2) := ((hC_4 tune 2 (by rw [h_tune.2]; decide)).trans (f_1 tune 2 (by rw [h_tune.2]; decide))); rw [← h9]; exact IV.rd hI h_tune.1 h_tune.2 2
      refine lv_icmp_ge (tgt := 76) hx hb dX0_take_12 (by decide) (fun c_6 => ?_) (fun c_6 => ?_)
      · have q_7 : (I tune 2).toInt ≤ x2_4.toInt := (ow_le _ _).mp c_6
        refine W.widen (k := 0) (n := 0) (Nat.le_of_ble_eq_true rfl) (Nat.le_of_ble_eq_true rfl) ?_
        exact W.vret hx hb hr (fun t ht9 hW => ⟨⟨(I4, J4, E4, B4), rfl, ⟨hI, hE, hC_0, trivial⟩, ⟨by rw [ht9]; exact hP, hD⟩⟩, hS.F ht9⟩) hS.2.2 dX0_take_76
      · have q_8 : x2_4.toInt < (I tune 2).toInt := by have := (not_congr (ow_le _ _)).mp c_6; omega
        refine lv_iconst (v := 0) hx hb dX0_take_15 (by decide) ?_
        refine lv_istore_n (lv' := [(3, .int 0), (2, .int x2_4), (0, .ref this), (1, .ref tune)]) hx hb dX0_take_16 rfl hl (by decide) rfl (fun ls hl => ?_)
        refine W.widen (k := 0) (n := 0) (Nat.le_of_ble_eq_true rfl) (Nat.le_of_ble_eq_true rfl) ?_
        have lp_9 : ∀ (N_9 : Nat) (x3_9 : Int32) (I9 : Nat → Nat → Int32) (J9 : Nat → Nat → Int64) (E9 : Nat → Nat → Int32) (B9 : Nat → Nat → Int64) (H : Heap) (locs : List Loc) (ls : Array Slot), IV T L K I9 → EV L K E9 → FI [(11, 1)] K I4 I9 → (108 - (I9 this 1).toInt).toNat < N_9 → va_P G vwCl (WC cy L K R I9 J9 E9 B9) H → va_D A (WC cy L K R I9 J9 E9 B9) → va_S A s.heap H locs → lv_has ls 4 [(3, .int x3_9), (2, .int x2_4), (0, .ref this), (1, .ref tune)] → W p l e (headSpec (.code yX0_take cX0_take 4 none :: TBg) ({ frames := 1, cells := 0, slots := 0, locals := 64 })).room s m ([.ref this, .ref tune] : List Value).toArray below meth c H locs 0 0 (MQ below (va_Qv (fun (u : (Nat → Nat → Int32) × (Nat → Nat → Int64) × (Nat → Nat → Int32) × (Nat → Nat → Int64)) => IV T L K u.1 ∧ EV L K u.2.2.1 ∧ FI [(11, 1)] K I u.1 ∧ (True)) (fun u t => Ex G A (WC cy L K R u.1 u.2.1 u.2.2.1 u.2.2.2) t) A) ([.ref this, .ref tune] : List Value).toArray s 0 0 A) (F0 m 17 ls []) := by
          intro N_9
          induction N_9 with
          | zero => intro x3_9 I9 J9 E9 B9 H locs ls hI hE hC_9 hm9 hP hD hS hl; exact absurd hm9 (Nat.not_lt_zero _)
          | succ N_9 ih_9 =>
            intro x3_9 I9 J9 E9 B9 H locs ls hI hE hC_9 hm9 hP hD hS hl
            replace hC_0 := FI.tr hC_0 hC_9 (by decide)
            replace hX_4 := FI.tr hX_4 hC_9 (by decide)
            have hX_9 := hC_9
            refine lv_iload_n hx hb dX0_take_17 rfl (lv_at hl 0 rfl) ?_
            refine lv_aload_n hx hb dX0_take_18 rfl (lv_at hl 3 rfl) ?_
            refine cg_2_1_0 hx hb ht hown hK hN hP h_tune.1 h_tune.2 dX0_take_19 ?_
            have hm_10 : (R tune 1) ∈ L ∧ K (R tune 1) = 22 := RT.o hRT h_tune.1 h_tune.2 1 (by decide)
            refine lv_iload_n hx hb dX0_take_22 rfl (lv_at hl 1 rfl) ?_
            have q_11 : vp_in x2_4 12 := vp_in_iff.mpr ⟨by omega, by omega⟩
            refine cl_22 hx hb hK hP hm_10.1 hm_10.2 q_11 dX0_take_23 ?_
            refine lv_topi (fun v_12 ev_12 => ?_)
            refine lv_icmp_ge (tgt := 70) hx hb dX0_take_24 (by decide) (fun c_13 => ?_) (fun c_13 => ?_)
            · have q_14 : v_12.toInt ≤ x3_9.toInt := (ow_le _ _).mp c_13
              obtain ⟨v_15, ev_15⟩ : ∃ y : Int32, y = x2_4 + 1 := ⟨_, rfl⟩
              refine lv_iinc (v := v_15) (lv' := [(2, .int v_15), (3, .int x3_9), (0, .ref this), (1, .ref tune)]) hx hb dX0_take_70 hl (k := 1) rfl (by rw [ev_15]; rfl) (by decide) rfl (fun ls hl => ?_)
              have q_16 : v_15.toInt = x2_4.toInt + 1 := by have := ow_add ev_15 (by omega) (by omega); omega
              refine lv_goto (tgt := 7) hx hb dX0_take_73 (by decide) ?_
              refine W.widen (k := 0) (n := 0) (Nat.le_of_ble_eq_true rfl) (Nat.le_of_ble_eq_true rfl) ?_
              exact ih_4 v_15 I9 J9 E9 B9 _ _ _ hI hE hX_4 (by omega) (by omega) hP hD hS (lv_sub hl [0, 2, 3] rfl)
            · have q_17 : x3_9.toInt < v_12.toInt := by have := (not_congr (ow_le _ _)).mp c_13; omega
              refine lv_aload_n hx hb dX0_take_27 rfl (lv_at hl 2 rfl) ?_
              refine cg_11_1_0 hx hb ht hown hK hN hP hthis.1 hthis.2 dX0_take_28 ?_
              have q_18 : 0 ≤ (I9 this 1).toInt ∧ (I9 this 1).toInt ≤ 108 := IV.rd hI hthis.1 hthis.2 1
              refine lv_aload_n hx hb dX0_take_31 rfl (lv_at hl 2 rfl) ?_
              refine cg_11_0_0 hx hb ht hown hK hN hP hthis.1 hthis.2 dX0_take_32 ?_
              have hm_19 : (R this 0) ∈ L ∧ K (R this 0) = 46 := RT.o hRT hthis.1 hthis.2 0 (by decide)
              refine cn_46 hx hb hK hP hm_19.1 hm_19.2 dX0_take_35 ?_
              refine lv_icmp_ge (tgt := 70) hx hb dX0_take_36 (by decide) (fun c_20 => ?_) (fun c_20 => ?_)
              · have q_21 : (108 : Int32).toInt ≤ (I9 this 1).toInt := (ow_le _ _).mp c_20
                obtain ⟨v_22, ev_22⟩ : ∃ y : Int32, y = x2_4 + 1 := ⟨_, rfl⟩
                refine lv_iinc (v := v_22) (lv' := [(2, .int v_22), (3, .int x3_9), (0, .ref this), (1, .ref tune)]) hx hb dX0_take_70 hl (k := 1) rfl (by rw [ev_22]; rfl) (by decide) rfl (fun ls hl => ?_)
                have q_23 : v_22.toInt = x2_4.toInt + 1 := by have := ow_add ev_22 (by omega) (by omega); omega
                refine lv_goto (tgt := 7) hx hb dX0_take_73 (by decide) ?_
                refine W.widen (k := 0) (n := 0) (Nat.le_of_ble_eq_true rfl) (Nat.le_of_ble_eq_true rfl) ?_
                exact ih_4 v_22 I9 J9 E9 B9 _ _ _ hI hE hX_4 (by omega) (by omega) hP hD hS (lv_sub hl [0, 2, 3] rfl)
              · have q_24 : (I9 this 1).toInt < (108 : Int32).toInt := by have := (not_congr (ow_le _ _)).mp c_20; omega
                refine lv_aload_n hx hb dX0_take_39 rfl (lv_at hl 2 rfl) ?_
                refine cg_11_0_0 hx hb ht hown hK hN hP hthis.1 hthis.2 dX0_take_40 ?_
                refine lv_aload_n hx hb dX0_take_43 rfl (lv_at hl 2 rfl) ?_
                refine cg_11_1_0 hx hb ht hown hK hN hP hthis.1 hthis.2 dX0_take_44 ?_
                refine lv_aload_n hx hb dX0_take_47 rfl (lv_at hl 3 rfl) ?_
                refine cg_2_0_0 hx hb ht hown hK hN hP h_tune.1 h_tune.2 dX0_take_48 ?_
                have hm_25 : (R tune 0) ∈ L ∧ K (R tune 0) = 21 := RT.o hRT h_tune.1 h_tune.2 0 (by decide)
                refine lv_iload_n hx hb dX0_take_51 rfl (lv_at hl 1 rfl) ?_
                have q_26 : vp_in x2_4 12 := vp_in_iff.mpr ⟨by omega, by omega⟩
                refine cl_21 hx hb hK hP hm_25.1 hm_25.2 q_26 dX0_take_52 ?_
                refine lv_topi (fun v_27 ev_27 => ?_)
                have q_28 : vp_in (I9 this 1) 108 := vp_in_iff.mpr ⟨by omega, by omega⟩
                refine cs_46 hx hb hK hP hD hS hm_19.1 hm_19.2 q_28 dX0_take_53 (fun H locs hP hD hS => ?_)
                replace hE := EV.up hE hm_19.2 (i := (Int32.toNatClampNeg (I9 this 1))) (ow_any v_27)
                generalize (va_up E9 (R this 0) (upd (E9 (R this 0)) (Int32.toNatClampNeg (I9 this 1)) v_27)) = E_29 at hP hD hE
                refine lv_aload_n hx hb dX0_take_54 rfl (lv_at hl 2 rfl) ?_
                refine lv_dup hx hb dX0_take_55 rfl ?_
                refine cg_11_1_0 hx hb ht hown hK hN hP hthis.1 hthis.2 dX0_take_56 ?_
                refine lv_iconst (v := 1) hx hb dX0_take_59 (by decide) ?_
                refine lv_iadd hx hb dX0_take_60 ?_
                refine lv_topi (fun v_30 ev_30 => ?_)
                have q_31 : v_30.toInt = (I9 this 1).toInt + (1 : Int32).toInt := ow_add ev_30 (by omega) (by omega)
                refine cp_11_1_0 hx hb ht hown hK hN hP hD hS hthis.1 hthis.2 dX0_take_61 (fun H locs hP hD hS => ?_)
                replace hI := IV.up hI hthis.2 1 (show 0 ≤ v_30.toInt ∧ v_30.toInt ≤ 108 from by omega)
                have f_32 : FI [(11, 1)] K I9 (va_up I9 this (va_up (I9 this) 1 v_30)) := FI.up hthis.2 1 v_30
                have e_33 : (va_up I9 this (va_up (I9 this) 1 v_30)) this 1 = v_30 := FI.at I9 this 1 v_30
                replace hC_0 := FI.tr hC_0 f_32 (by decide)
                replace hX_4 := FI.tr hX_4 f_32 (by decide)
                replace hX_9 := FI.tr hX_9 f_32 (by decide)
                generalize (va_up I9 this (va_up (I9 this) 1 v_30)) = I_34 at hP hD hI f_32 e_33 hC_0 hX_4 hX_9
                obtain ⟨v_35, ev_35⟩ : ∃ y : Int32, y = x3_9 + 1 := ⟨_, rfl⟩
                refine lv_iinc (v := v_35) (lv' := [(3, .int v_35), (2, .int x2_4), (0, .ref this), (1, .ref tune)]) hx hb dX0_take_64 hl (k := 0) rfl (by rw [ev_35]; rfl) (by decide) rfl (fun ls hl => ?_)
                refine lv_goto (tgt := 17) hx hb dX0_take_67 (by decide) ?_
                refine W.widen (k := 0) (n := 0) (Nat.le_of_ble_eq_true rfl) (Nat.le_of_ble_eq_true rfl) ?_
                exact ih_9 v_35 I_34 J9 E_29 B9 _ _ _ hI hE hX_9 (show (108 - (I_34 this 1).toInt).toNat < N_9 from by rw [(show I_34 this 1 = v_30 from e_33)]; try omega) hP hD hS (lv_sub hl [0, 1, 2, 3] rfl)
        exact lp_9 _ (0) I4 J4 E4 B4 _ _ _ hI hE FI.rf (Nat.lt_succ_self _) hP hD hS (lv_sub hl [0, 1, 2, 3] rfl)
  exact lp_4 _ (0) I_3 J E B _ _ _ hI hE FI.rf (by omega) (Nat.lt_succ_self _) hP hD hS (lv_sub hl [0, 1, 2] rfl)
set_option maxHeartbeats 4000000 in
set_option maxRecDepth 100000 in
theorem c_notSweet (l : Launch) (G : va_G) (cy : Nat → ClassId) (sz : Nat) (L : List Nat) (K : Nat → Nat) (R : Nat → Nat → Nat) (T : Int) (I E : Nat → Nat → Int32) (J B : Nat → Nat → Int64) (this : Nat) (n : Int32) (sweet : Nat) (hRT : RT L K R) (hI : IV T L K I) (hE : EV L K E) (hthis1 : this ∈ L) (hthis2 : K this = 11) (h_sweet1 : sweet ∈ L) (h_sweet2 : K sweet = 33) : Met l yX0_notSweet (.code yX0_notSweet cX0_notSweet 6 (some .int) :: TBg) ({ frames := 2, cells := 0, slots := 0, locals := 128 }) (va_Pc [.ref this, .int n, .ref sweet] (En G cy (WC cy L K R I J E B) sz)) (va_Qi (fun (r : Int32) (_ : Unit) => True) (fun _ _ => True) (va_A [] sz)) 0 0 (va_A [] sz) := by
  have hthis : this ∈ L ∧ K this = 11 := ⟨hthis1, hthis2⟩
  have h_sweet : sweet ∈ L ∧ K sweet = 33 := ⟨h_sweet1, h_sweet2⟩
  refine Met.ofW (cc := cX0_notSweet) (maxL := 6) (ret := (some .int)) (by decide) rfl ?_
  intro p e s m args below meth c s₁ B9 hml hv9
  obtain ⟨rfl, hsz, hP, hK, hD0, hN⟩ := hv9
  have hx := B9.exec
  have hb := B9.bytes
  have hr := B9.returns
  have hts := atoms_spec (ws := .code yX0_notSweet cX0_notSweet 6 (some .int) :: TBg) B9.pre
  have ht : ∀ w ∈ TBg, w.before _ s = true := fun w h => hts w (List.mem_cons_of_mem _ h)
  have hown : s.vm.findClass RX0 = some m.cls := findClass_of_methodNamed B9.named
  have hlocks := B9.notSynchronized
  subst hsz
  generalize hAe : va_A [] s.heap.size = A at ⊢
  have hA : ∀ q : Nat, s.heap.size ≤ q → A q := fun q h => by rw [← hAe]; exact Or.inr h
  have hS : va_S A s.heap s.heap [] := va_S.rf
  have hl := lv_entry ([.ref this, .int n, .ref sweet]) (n := 6) (Nat.le_of_ble_eq_true rfl)
  rw [lg_entry_eq]
  generalize (lg_sl ([.ref this, .int n, .ref sweet]) ++ List.replicate (6 - (lg_sl ([.ref this, .int n, .ref sweet])).length) Slot.unset).toArray = ls at hl ⊢
  have hl : lv_has ls 6 [(0, .ref this), (1, .int n), (2, .ref sweet)] := hl
  have z0 : (0 : Int32).toInt = 0 := by decide
  have z1 : (1 : Int32).toInt = 1 := by decide
  have z2 : (12 : Int32).toInt = 12 := by decide
  refine lv_iconst (v := 0) hx hb dX0_notSweet_0 (by decide) ?_
  refine lv_istore_n (lv' := [(3, .int 0), (0, .ref this), (1, .int n), (2, .ref sweet)]) hx hb dX0_notSweet_1 rfl hl (by decide) rfl (fun ls hl => ?_)
  refine lv_iload_n hx hb dX0_notSweet_2 rfl (lv_at hl 2 rfl) ?_
  refine lv_istore (lv' := [(4, .int n), (3, .int 0), (0, .ref this), (1, .int n), (2, .ref sweet)]) hx hb dX0_notSweet_3 hl (by decide) rfl (fun ls hl => ?_)
  refine W.widen (k := 0) (n := 0) (Nat.le_of_ble_eq_true rfl) (Nat.le_of_ble_eq_true rfl) ?_
  have lp_1 : ∀ (N_1 : Nat) (x4_1 : Int32) (x3_1 : Int32) (H : Heap) (locs : List Loc) (ls : Array Slot), (n.toInt ≤ x4_1.toInt) → (109 - x4_1.toInt).toNat < N_1 → va_P G vwCl (WC cy L K R I J E B) H → va_S A s.heap H locs → lv_has ls 6 [(4, .int x4_1), (3, .int x3_1), (0, .ref this), (1, .int n), (2, .ref sweet)] → W p l e (headSpec (.code yX0_notSweet cX0_notSweet 6 (some .int) :: TBg) ({ frames := 2, cells := 0, slots := 0, locals := 128 })).room s m ([.ref this, .int n, .ref sweet] : List Value).toArray below meth c H locs 0 0 (MQ below (va_Qi (fun (r : Int32) (_ : Unit) => True) (fun _ _ => True) A) ([.ref this, .int n, .ref sweet] : List Value).toArray s 0 0 A) (F0 m 5 ls []) := by
    intro N_1
    induction N_1 with
    | zero => intro x4_1 x3_1 H locs ls qf1_0 hm9 hP hS hl; exact absurd hm9 (Nat.not_lt_zero _)
    | succ N_1 ih_1 =>
      intro x4_1 x3_1 H locs ls qf1_0 hm9 hP hS hl
      refine lv_iload hx hb dX0_notSweet_5 (lv_at hl 0 rfl) ?_
      refine lv_aload_n hx hb dX0_notSweet_7 rfl (lv_at hl 2 rfl) ?_
      refine cg_11_1_0 hx hb ht hown hK hN hP hthis.1 hthis.2 dX0_notSweet_8 ?_
      have q_2 : 0 ≤ (I this 1).toInt ∧ (I this 1).toInt ≤ 108 := IV.rd hI hthis.1 hthis.2 1
      refine lv_icmp_ge (tgt := 71) hx hb dX0_notSweet_11 (by decide) (fun c_3 => ?_) (fun c_3 => ?_)
      · have q_4 : (I this 1).toInt ≤ x4_1.toInt := (ow_le _ _).mp c_3
        refine lv_iload_n hx hb dX0_notSweet_71 rfl (lv_at hl 1 rfl) ?_
        refine W.widen (k := 0) (n := 0) (Nat.le_of_ble_eq_true rfl) (Nat.le_of_ble_eq_true rfl) ?_
        exact W.iret (v := x3_1) hx hb hr (fun t ht9 hW => ⟨⟨x3_1, (), rfl, trivial, trivial⟩, hS.F ht9⟩) hS.2.2 dX0_notSweet_72
      · have q_5 : x4_1.toInt < (I this 1).toInt := by have := (not_congr (ow_le _ _)).mp c_3; omega
        refine lv_iload_n hx hb dX0_notSweet_14 rfl (lv_at hl 3 rfl) ?_
        refine lv_if_le (tgt := 71) hx hb dX0_notSweet_15 (by decide) (fun c_6 => ?_) (fun c_6 => ?_)
        · have q_7 : n.toInt ≤ (0 : Int32).toInt := (ow_le _ _).mp c_6
          refine lv_iload_n hx hb dX0_notSweet_71 rfl (lv_at hl 1 rfl) ?_
          refine W.widen (k := 0) (n := 0) (Nat.le_of_ble_eq_true rfl) (Nat.le_of_ble_eq_true rfl) ?_
          exact W.iret (v := x3_1) hx hb hr (fun t ht9 hW => ⟨⟨x3_1, (), rfl, trivial, trivial⟩, hS.F ht9⟩) hS.2.2 dX0_notSweet_72
        · have q_8 : (0 : Int32).toInt < n.toInt := by have := (not_congr (ow_le _ _)).mp c_6; omega
          refine lv_aload_n hx hb dX0_notSweet_18 rfl (lv_at hl 2 rfl) ?_
          refine cg_11_0_0 hx hb ht hown hK hN hP hthis.1 hthis.2 dX0_notSweet_19 ?_
          have hm_9 : (R this 0) ∈ L ∧ K (R this 0) = 46 := RT.o hRT hthis.1 hthis.2 0 (by decide)
          refine lv_iload hx hb dX0_notSweet_22 (lv_at hl 0 rfl) ?_
          have q_10 : vp_in x4_1 108 := vp_in_iff.mpr ⟨by omega, by omega⟩
          refine cl_46 hx hb hK hP hm_9.1 hm_9.2 q_10 dX0_notSweet_24 ?_
          refine lv_topi (fun v_11 ev_11 => ?_)
          refine lv_aload_n hx hb dX0_notSweet_25 rfl (lv_at hl 2 rfl) ?_
          refine cg_11_0_0 hx hb ht hown hK hN hP hthis.1 hthis.2 dX0_notSweet_26 ?_
          refine lv_iload hx hb dX0_notSweet_29 (lv_at hl 0 rfl) ?_
          refine lv_iload_n hx hb dX0_notSweet_31 rfl (lv_at hl 3 rfl) ?_
          refine lv_isub hx hb dX0_notSweet_32 ?_
          refine lv_topi (fun v_12 ev_12 => ?_)
          have q_13 : v_12.toInt = x4_1.toInt - n.toInt := ow_sub ev_12 (by omega) (by omega)
          have q_14 : vp_in v_12 108 := vp_in_iff.mpr ⟨by omega, by omega⟩
          refine cl_46 hx hb hK hP hm_9.1 hm_9.2 q_14 dX0_notSweet_33 ?_
          refine lv_topi (fun v_15 ev_15 => ?_)
          refine lv_isub hx hb dX0_notSweet_34 ?_
          refine lv_topi (fun v_16 ev_16 => ?_)
          refine va_mabs hx hb (by rw [hml]; exact hl.1.symm) hown (ht _ k_499) (ht _ k_401) (ht _ k_402) (ht _ k_403) (Nat.le_of_ble_eq_true rfl) (Nat.le_of_ble_eq_true rfl) (Nat.le_of_ble_eq_true rfl) (Nat.le_of_ble_eq_true rfl) dX0_notSweet_35 ?_
          refine lv_topi (fun v_17 ev_17 => ?_)
          refine lv_bipush (v := 12) hx hb dX0_notSweet_38 (by decide) ?_
          refine lv_irem hx hb dX0_notSweet_40 (by decide) ?_
          refine lv_topi (fun v_18 ev_18 => ?_)
          refine lv_istore (lv' := [(5, .int v_18), (4, .int x4_1), (3, .int x3_1), (0, .ref this), (1, .int n), (2, .ref sweet)]) hx hb dX0_notSweet_41 hl (by decide) rfl (fun ls hl => ?_)
          refine lv_iload hx hb dX0_notSweet_43 (lv_at hl 0 rfl) ?_
          refine lv_if_lt (tgt := 62) hx hb dX0_notSweet_45 (by decide) (fun c_19 => ?_) (fun c_19 => ?_)
          · have q_20 : v_18.toInt < (0 : Int32).toInt := (ow_lt _ _).mp c_19
            obtain ⟨v_21, ev_21⟩ : ∃ y : Int32, y = x3_1 + 1 := ⟨_, rfl⟩
            refine lv_iinc (v := v_21) (lv' := [(3, .int v_21), (5, .int v_18), (4, .int x4_1), (0, .ref this), (1, .int n), (2, .ref sweet)]) hx hb dX0_notSweet_62 hl (k := 2) rfl (by rw [ev_21]; rfl) (by decide) rfl (fun ls hl => ?_)
            obtain ⟨v_22, ev_22⟩ : ∃ y : Int32, y = x4_1 + 1 := ⟨_, rfl⟩
            refine lv_iinc (v := v_22) (lv' := [(4, .int v_22), (3, .int v_21), (5, .int v_18), (0, .ref this), (1, .int n), (2, .ref sweet)]) hx hb dX0_notSweet_65 hl (k := 2) rfl (by rw [ev_22]; rfl) (by decide) rfl (fun ls hl => ?_)
            have q_23 : v_22.toInt = x4_1.toInt + 1 := by have := ow_add ev_22 (by omega) (by omega); omega
            refine lv_goto (tgt := 5) hx hb dX0_notSweet_68 (by decide) ?_
            refine W.widen (k := 0) (n := 0) (Nat.le_of_ble_eq_true rfl) (Nat.le_of_ble_eq_true rfl) ?_
            exact ih_1 v_22 v_21 _ _ _ (by omega) (by omega) hP hS (lv_sub hl [0, 1, 3, 4, 5] rfl)
          · have q_24 : (0 : Int32).toInt ≤ v_18.toInt := by have := (not_congr (ow_lt _ _)).mp c_19; omega
            refine lv_iload hx hb dX0_notSweet_48 (lv_at hl 0 rfl) ?_
            refine lv_aload_n hx hb dX0_notSweet_50 rfl (lv_at hl 5 rfl) ?_
            refine cn_33 hx hb hK hP h_sweet.1 h_sweet.2 dX0_notSweet_51 ?_
            refine lv_icmp_ge (tgt := 62) hx hb dX0_notSweet_52 (by decide) (fun c_25 => ?_) (fun c_25 => ?_)
            · have q_26 : (12 : Int32).toInt ≤ v_18.toInt := (ow_le _ _).mp c_25
              obtain ⟨v_27, ev_27⟩ : ∃ y : Int32, y = x3_1 + 1 := ⟨_, rfl⟩
              refine lv_iinc (v := v_27) (lv' := [(3, .int v_27), (5, .int v_18), (4, .int x4_1), (0, .ref this), (1, .int n), (2, .ref sweet)]) hx hb dX0_notSweet_62 hl (k := 2) rfl (by rw [ev_27]; rfl) (by decide) rfl (fun ls hl => ?_)
              obtain ⟨v_28, ev_28⟩ : ∃ y : Int32, y = x4_1 + 1 := ⟨_, rfl⟩
              refine lv_iinc (v := v_28) (lv' := [(4, .int v_28), (3, .int v_27), (5, .int v_18), (0, .ref this), (1, .int n), (2, .ref sweet)]) hx hb dX0_notSweet_65 hl (k := 2) rfl (by rw [ev_28]; rfl) (by decide) rfl (fun ls hl => ?_)
              have q_29 : v_28.toInt = x4_1.toInt + 1 := by have := ow_add ev_28 (by omega) (by omega); omega
              refine lv_goto (tgt := 5) hx hb dX0_notSweet_68 (by decide) ?_
              refine W.widen (k := 0) (n := 0) (Nat.le_of_ble_eq_true rfl) (Nat.le_of_ble_eq_true rfl) ?_
              exact ih_1 v_28 v_27 _ _ _ (by omega) (by omega) hP hS (lv_sub hl [0, 1, 3, 4, 5] rfl)
            · have q_30 : v_18.toInt < (12 : Int32).toInt := by have := (not_congr (ow_le _ _)).mp c_25; omega
              refine lv_aload_n hx hb dX0_notSweet_55 rfl (lv_at hl 5 rfl) ?_
              refine lv_iload hx hb dX0_notSweet_56 (lv_at hl 0 rfl) ?_
              have q_31 : vp_in v_18 12 := vp_in_iff.mpr ⟨by omega, by omega⟩
              refine cl_33 hx hb hK hP h_sweet.1 h_sweet.2 q_31 dX0_notSweet_58 ?_
              refine lv_topi (fun v_32 ev_32 => ?_)
              have q_33 : 0 ≤ v_32.toInt ∧ v_32.toInt ≤ 1 := by rw [ev_32]; exact EV.rd hE h_sweet.1 h_sweet.2 q_31
              refine lv_if_ne (tgt := 65) hx hb dX0_notSweet_59 (by decide) (fun c_34 => ?_) (fun c_34 => ?_)
              · have q_35 : ¬ v_32.toInt = (0 : Int32).toInt := by have := (not_congr (ow_eq _ _)).mp c_34; omega
                obtain ⟨v_36, ev_36⟩ : ∃ y : Int32, y = x4_1 + 1 := ⟨_, rfl⟩
                refine lv_iinc (v := v_36) (lv' := [(4, .int v_36), (5, .int v_18), (3, .int x3_1), (0, .ref this), (1, .int n), (2, .ref sweet)]) hx hb dX0_notSweet_65 hl (k := 1) rfl (by rw [ev_36]; rfl) (by decide) rfl (fun ls hl => ?_)
                have q_37 : v_36.toInt = x4_1.toInt + 1 := by have := ow_add ev_36 (by omega) (by omega); omega
                refine lv_goto (tgt := 5) hx hb dX0_notSweet_68 (by decide) ?_
                refine W.widen (k := 0) (n := 0) (Nat.le_of_ble_eq_true rfl) (Nat.le_of_ble_eq_true rfl) ?_
                exact ih_1 v_36 x3_1 _ _ _ (by omega) (by omega) hP hS (lv_sub hl [0, 2, 3, 4, 5] rfl)
              · have q_38 : v_32.toInt = (0 : Int32).toInt := (ow_eq _ _).mp c_34
                obtain ⟨v_39, ev_39⟩ : ∃ y : Int32, y = x3_1 + 1 := ⟨_, rfl⟩
                refine lv_iinc (v := v_39) (lv' := [(3, .int v_39), (5, .int v_18), (4, .int x4_1), (0, .ref this), (1, .int n), (2, .ref sweet)]) hx hb dX0_notSweet_62 hl (k := 2) rfl (by rw [ev_39]; rfl) (by decide) rfl (fun ls hl => ?_)
                obtain ⟨v_40, ev_40⟩ : ∃ y : Int32, y = x4_1 + 1 := ⟨_, rfl⟩
                refine lv_iinc (v := v_40) (lv' := [(4, .int v_40), (3, .int v_39), (5, .int v_18), (0, .ref this), (1, .int n), (2, .ref sweet)]) hx hb dX0_notSweet_65 hl (k := 2) rfl (by rw [ev_40]; rfl) (by decide) rfl (fun ls hl => ?_)
                have q_41 : v_40.toInt = x4_1.toInt + 1 := by have := ow_add ev_40 (by omega) (by omega); omega
                refine lv_goto (tgt := 5) hx hb dX0_notSweet_68 (by decide) ?_
                refine W.widen (k := 0) (n := 0) (Nat.le_of_ble_eq_true rfl) (Nat.le_of_ble_eq_true rfl) ?_
                exact ih_1 v_40 v_39 _ _ _ (by omega) (by omega) hP hS (lv_sub hl [0, 1, 3, 4, 5] rfl)
  exact lp_1 _ n (0) _ _ _ (by omega) (Nat.lt_succ_self _) hP hS (lv_sub hl [0, 1, 2, 3, 4] rfl)
set_option maxHeartbeats 4000000 in
set_option maxRecDepth 100000 in
theorem c_bestLater (l : Launch) (G : va_G) (cy : Nat → ClassId) (sz : Nat) (L : List Nat) (K : Nat → Nat) (R : Nat → Nat → Nat) (T : Int) (I E : Nat → Nat → Int32) (J B : Nat → Nat → Int64) (this : Nat) (sweet : Nat) (hRT : RT L K R) (hI : IV T L K I) (hE : EV L K E) (hthis1 : this ∈ L) (hthis2 : K this = 11) (h_sweet1 : sweet ∈ L) (h_sweet2 : K sweet = 33) : Met l yX0_bestLater (.code yX0_bestLater cX0_bestLater 6 (some .int) :: TBg) ({ frames := 3, cells := 0, slots := 0, locals := 192 }) (va_Pc [.ref this, .ref sweet] (En G cy (WC cy L K R I J E B) sz)) (va_Qi (fun (r : Int32) (_ : Unit) => True) (fun _ _ => True) (va_A [] sz)) 0 0 (va_A [] sz) := by
  have hthis : this ∈ L ∧ K this = 11 := ⟨hthis1, hthis2⟩
  have h_sweet : sweet ∈ L ∧ K sweet = 33 := ⟨h_sweet1, h_sweet2⟩
  refine Met.ofW (cc := cX0_bestLater) (maxL := 6) (ret := (some .int)) (by decide) rfl ?_
  intro p e s m args below meth c s₁ B9 hml hv9
  obtain ⟨rfl, hsz, hP, hK, hD0, hN⟩ := hv9
  have hx := B9.exec
  have hb := B9.bytes
  have hr := B9.returns
  have hts := atoms_spec (ws := .code yX0_bestLater cX0_bestLater 6 (some .int) :: TBg) B9.pre
  have ht : ∀ w ∈ TBg, w.before _ s = true := fun w h => hts w (List.mem_cons_of_mem _ h)
  have hown : s.vm.findClass RX0 = some m.cls := findClass_of_methodNamed B9.named
  have hlocks := B9.notSynchronized
  subst hsz
  generalize hAe : va_A [] s.heap.size = A at ⊢
  have hA : ∀ q : Nat, s.heap.size ≤ q → A q := fun q h => by rw [← hAe]; exact Or.inr h
  have hS : va_S A s.heap s.heap [] := va_S.rf
  have hl := lv_entry ([.ref this, .ref sweet]) (n := 6) (Nat.le_of_ble_eq_true rfl)
  rw [lg_entry_eq]
  generalize (lg_sl ([.ref this, .ref sweet]) ++ List.replicate (6 - (lg_sl ([.ref this, .ref sweet])).length) Slot.unset).toArray = ls at hl ⊢
  have hl : lv_has ls 6 [(0, .ref this), (1, .ref sweet)] := hl
  have z0 : (-1 : Int32).toInt = -1 := by decide
  have z1 : (1 : Int32).toInt = 1 := by decide
  have z2 : (99 : Int32).toInt = 99 := by decide
  refine lv_iconst (v := (-1)) hx hb dX0_bestLater_0 (by decide) ?_
  refine lv_istore_n (lv' := [(2, .int (-1)), (0, .ref this), (1, .ref sweet)]) hx hb dX0_bestLater_1 rfl hl (by decide) rfl (fun ls hl => ?_)
  refine lv_iconst (v := 0) hx hb dX0_bestLater_2 (by decide) ?_
  refine lv_istore_n (lv' := [(3, .int 0), (2, .int (-1)), (0, .ref this), (1, .ref sweet)]) hx hb dX0_bestLater_3 rfl hl (by decide) rfl (fun ls hl => ?_)
  refine lv_iconst (v := 1) hx hb dX0_bestLater_4 (by decide) ?_
  refine lv_istore (lv' := [(4, .int 1), (3, .int 0), (2, .int (-1)), (0, .ref this), (1, .ref sweet)]) hx hb dX0_bestLater_5 hl (by decide) rfl (fun ls hl => ?_)
  refine W.widen (k := 0) (n := 0) (Nat.le_of_ble_eq_true rfl) (Nat.le_of_ble_eq_true rfl) ?_
  have lp_1 : ∀ (N_1 : Nat) (x4_1 : Int32) (x3_1 : Int32) (x2_1 : Int32) (H : Heap) (locs : List Loc) (ls : Array Slot), (1 ≤ x4_1.toInt ∧ x4_1.toInt ≤ 100) → (100 - x4_1.toInt).toNat < N_1 → va_P G vwCl (WC cy L K R I J E B) H → va_S A s.heap H locs → lv_has ls 6 [(4, .int x4_1), (3, .int x3_1), (2, .int x2_1), (0, .ref this), (1, .ref sweet)] → W p l e (headSpec (.code yX0_bestLater cX0_bestLater 6 (some .int) :: TBg) ({ frames := 3, cells := 0, slots := 0, locals := 192 })).room s m ([.ref this, .ref sweet] : List Value).toArray below meth c H locs 0 0 (MQ below (va_Qi (fun (r : Int32) (_ : Unit) => True) (fun _ _ => True) A) ([.ref this, .ref sweet] : List Value).toArray s 0 0 A) (F0 m 7 ls []) := by
    intro N_1
    induction N_1 with
    | zero => intro x4_1 x3_1 x2_1 H locs ls qf1_0 hm9 hP hS hl; exact absurd hm9 (Nat.not_lt_zero _)
    | succ N_1 ih_1 =>
      intro x4_1 x3_1 x2_1 H locs ls qf1_0 hm9 hP hS hl
      refine lv_iload hx hb dX0_bestLater_7 (lv_at hl 0 rfl) ?_
      refine lv_bipush (v := 99) hx hb dX0_bestLater_9 (by decide) ?_
      refine lv_icmp_gt (tgt := 55) hx hb dX0_bestLater_11 (by decide) (fun c_2 => ?_) (fun c_2 => ?_)
      · have q_3 : (99 : Int32).toInt < x4_1.toInt := (ow_lt _ _).mp c_2
        refine lv_iload_n hx hb dX0_bestLater_55 rfl (lv_at hl 2 rfl) ?_
        refine W.widen (k := 0) (n := 0) (Nat.le_of_ble_eq_true rfl) (Nat.le_of_ble_eq_true rfl) ?_
        exact W.iret (v := x2_1) hx hb hr (fun t ht9 hW => ⟨⟨x2_1, (), rfl, trivial, trivial⟩, hS.F ht9⟩) hS.2.2 dX0_bestLater_56
      · have q_4 : x4_1.toInt ≤ (99 : Int32).toInt := by have := (not_congr (ow_lt _ _)).mp c_2; omega
        refine lv_iload hx hb dX0_bestLater_14 (lv_at hl 0 rfl) ?_
        refine lv_aload_n hx hb dX0_bestLater_16 rfl (lv_at hl 3 rfl) ?_
        refine cg_11_1_0 hx hb ht hown hK hN hP hthis.1 hthis.2 dX0_bestLater_17 ?_
        have q_5 : 0 ≤ (I this 1).toInt ∧ (I this 1).toInt ≤ 108 := IV.rd hI hthis.1 hthis.2 1
        refine lv_icmp_ge (tgt := 55) hx hb dX0_bestLater_20 (by decide) (fun c_6 => ?_) (fun c_6 => ?_)
        · have q_7 : (I this 1).toInt ≤ x4_1.toInt := (ow_le _ _).mp c_6
          refine lv_iload_n hx hb dX0_bestLater_55 rfl (lv_at hl 2 rfl) ?_
          refine W.widen (k := 0) (n := 0) (Nat.le_of_ble_eq_true rfl) (Nat.le_of_ble_eq_true rfl) ?_
          exact W.iret (v := x2_1) hx hb hr (fun t ht9 hW => ⟨⟨x2_1, (), rfl, trivial, trivial⟩, hS.F ht9⟩) hS.2.2 dX0_bestLater_56
        · have q_8 : x4_1.toInt < (I this 1).toInt := by have := (not_congr (ow_le _ _)).mp c_6; omega
          refine lv_aload_n hx hb dX0_bestLater_23 rfl (lv_at hl 3 rfl) ?_
          refine lv_iload hx hb dX0_bestLater_24 (lv_at hl 0 rfl) ?_
          refine lv_aload_n hx hb dX0_bestLater_26 rfl (lv_at hl 4 rfl) ?_
          have hFc := fr_new hS hA
          refine va_calli (va_runV (As := [.int x4_1, .ref sweet]) (rest := []) ⟨hx, hb, hml, hown, ht⟩ (c_notSweet l G cy _ L K R T I E J B this x4_1 sweet hRT hI hE hthis.1 hthis.2 h_sweet.1 h_sweet.2) (cwV 2 ht (gv k_501 k_502 k_503 k_504 k_500) rfl rfl rfl (by decide +kernel) ⟨Nat.le_of_ble_eq_true rfl, Nat.le_of_ble_eq_true rfl⟩) ⟨En.blind, cr_11 hK hP hthis.1 hthis.2, fun U hU hW => ⟨rfl, En.of hU hW hP hK hD0 hN⟩⟩ rfl rfl hl.1 rfl (lv_room (Nat.le_of_ble_eq_true rfl)) dX0_bestLater_27 ⟨Nat.le_of_ble_eq_true rfl, Nat.le_of_ble_eq_true rfl⟩) hS (fun q _ h => hFc q h) hFc (fun r_u_9 u_9 t9 H locs ht9 hvm hw hB hz1 hk1 hS => ?_)
          have hP := fr_keep hP hk1
          have wu_9 := hw
          clear hFc hk1 hz1 hB hw
          refine lv_istore (lv' := [(5, .int r_u_9), (4, .int x4_1), (3, .int x3_1), (2, .int x2_1), (0, .ref this), (1, .ref sweet)]) hx hb dX0_bestLater_30 hl (by decide) rfl (fun ls hl => ?_)
          refine lv_iload_n hx hb dX0_bestLater_32 rfl (lv_at hl 3 rfl) ?_
          refine lv_iconst (v := (-1)) hx hb dX0_bestLater_33 (by decide) ?_
          refine lv_icmp_eq (tgt := 43) hx hb dX0_bestLater_34 (by decide) (fun c_10 => ?_) (fun c_10 => ?_)
          · have q_11 : x2_1.toInt = ((-1) : Int32).toInt := (ow_eq _ _).mp c_10
            refine lv_iload hx hb dX0_bestLater_43 (lv_at hl 1 rfl) ?_
            refine lv_istore_n (lv' := [(2, .int x4_1), (5, .int r_u_9), (4, .int x4_1), (3, .int x3_1), (0, .ref this), (1, .ref sweet)]) hx hb dX0_bestLater_45 rfl hl (by decide) rfl (fun ls hl => ?_)
            refine lv_iload hx hb dX0_bestLater_46 (lv_at hl 1 rfl) ?_
            refine lv_istore_n (lv' := [(3, .int r_u_9), (2, .int x4_1), (5, .int r_u_9), (4, .int x4_1), (0, .ref this), (1, .ref sweet)]) hx hb dX0_bestLater_48 rfl hl (by decide) rfl (fun ls hl => ?_)
            obtain ⟨v_12, ev_12⟩ : ∃ y : Int32, y = x4_1 + 1 := ⟨_, rfl⟩
            refine lv_iinc (v := v_12) (lv' := [(4, .int v_12), (3, .int r_u_9), (2, .int x4_1), (5, .int r_u_9), (0, .ref this), (1, .ref sweet)]) hx hb dX0_bestLater_49 hl (k := 3) rfl (by rw [ev_12]; rfl) (by decide) rfl (fun ls hl => ?_)
            have q_13 : v_12.toInt = x4_1.toInt + 1 := by have := ow_add ev_12 (by omega) (by omega); omega
            refine lv_goto (tgt := 7) hx hb dX0_bestLater_52 (by decide) ?_
            refine W.widen (k := 0) (n := 0) (Nat.le_of_ble_eq_true rfl) (Nat.le_of_ble_eq_true rfl) ?_
            exact ih_1 v_12 r_u_9 x4_1 _ _ _ (by omega) (by omega) hP hS (lv_sub hl [0, 1, 2, 4, 5] rfl)
          · have q_14 : ¬ x2_1.toInt = ((-1) : Int32).toInt := by have := (not_congr (ow_eq _ _)).mp c_10; omega
            refine lv_iload hx hb dX0_bestLater_37 (lv_at hl 0 rfl) ?_
            refine lv_iload_n hx hb dX0_bestLater_39 rfl (lv_at hl 2 rfl) ?_
            refine lv_icmp_ge (tgt := 49) hx hb dX0_bestLater_40 (by decide) (fun c_15 => ?_) (fun c_15 => ?_)
            · have q_16 : x3_1.toInt ≤ r_u_9.toInt := (ow_le _ _).mp c_15
              obtain ⟨v_17, ev_17⟩ : ∃ y : Int32, y = x4_1 + 1 := ⟨_, rfl⟩
              refine lv_iinc (v := v_17) (lv' := [(4, .int v_17), (5, .int r_u_9), (3, .int x3_1), (2, .int x2_1), (0, .ref this), (1, .ref sweet)]) hx hb dX0_bestLater_49 hl (k := 1) rfl (by rw [ev_17]; rfl) (by decide) rfl (fun ls hl => ?_)
              have q_18 : v_17.toInt = x4_1.toInt + 1 := by have := ow_add ev_17 (by omega) (by omega); omega
              refine lv_goto (tgt := 7) hx hb dX0_bestLater_52 (by decide) ?_
              refine W.widen (k := 0) (n := 0) (Nat.le_of_ble_eq_true rfl) (Nat.le_of_ble_eq_true rfl) ?_
              exact ih_1 v_17 x3_1 x2_1 _ _ _ (by omega) (by omega) hP hS (lv_sub hl [0, 2, 3, 4, 5] rfl)
            · have q_19 : r_u_9.toInt < x3_1.toInt := by have := (not_congr (ow_le _ _)).mp c_15; omega
              refine lv_iload hx hb dX0_bestLater_43 (lv_at hl 1 rfl) ?_
              refine lv_istore_n (lv' := [(2, .int x4_1), (5, .int r_u_9), (4, .int x4_1), (3, .int x3_1), (0, .ref this), (1, .ref sweet)]) hx hb dX0_bestLater_45 rfl hl (by decide) rfl (fun ls hl => ?_)
              refine lv_iload hx hb dX0_bestLater_46 (lv_at hl 1 rfl) ?_
              refine lv_istore_n (lv' := [(3, .int r_u_9), (2, .int x4_1), (5, .int r_u_9), (4, .int x4_1), (0, .ref this), (1, .ref sweet)]) hx hb dX0_bestLater_48 rfl hl (by decide) rfl (fun ls hl => ?_)
              obtain ⟨v_20, ev_20⟩ : ∃ y : Int32, y = x4_1 + 1 := ⟨_, rfl⟩
              refine lv_iinc (v := v_20) (lv' := [(4, .int v_20), (3, .int r_u_9), (2, .int x4_1), (5, .int r_u_9), (0, .ref this), (1, .ref sweet)]) hx hb dX0_bestLater_49 hl (k := 3) rfl (by rw [ev_20]; rfl) (by decide) rfl (fun ls hl => ?_)
              have q_21 : v_20.toInt = x4_1.toInt + 1 := by have := ow_add ev_20 (by omega) (by omega); omega
              refine lv_goto (tgt := 7) hx hb dX0_bestLater_52 (by decide) ?_
              refine W.widen (k := 0) (n := 0) (Nat.le_of_ble_eq_true rfl) (Nat.le_of_ble_eq_true rfl) ?_
              exact ih_1 v_20 r_u_9 x4_1 _ _ _ (by omega) (by omega) hP hS (lv_sub hl [0, 1, 2, 4, 5] rfl)
  exact lp_1 _ (1) (0) ((-1)) _ _ _ (by omega) (Nat.lt_succ_self _) hP hS (lv_sub hl [0, 1, 2, 3, 4] rfl)
